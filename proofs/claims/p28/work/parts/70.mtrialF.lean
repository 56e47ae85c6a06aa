
set_option maxHeartbeats 4000000 in
set_option maxRecDepth 100000 in
theorem m_init0 (l : Launch) (D : va_G) (kA : Nat → ClassId) (b0 : Nat) (t0 : Nat → Nat) (S : xT) (g : xG) (a0 : Nat) (x1 : Int) (x2 : Int) (x3 : Int) (x4 : Int) (x5 : Int) (hs_a0 : S a0 = some (5001, 0)) (hx1 : (-2147483648) ≤ x1 ∧ x1 ≤ 2147483647) (hx2 : (-2147483648) ≤ x2 ∧ x2 ≤ 2147483647) (hx3 : 0 ≤ x3 ∧ x3 ≤ 1) (hx4 : (-2147483648) ≤ x4 ∧ x4 ≤ 2147483647) (hx5 : (-2147483648) ≤ x5 ∧ x5 ≤ 2147483647) : xMu l yX0_init cX0_init 6 none 1 0 0 12 D kA b0 t0 [(5001, 5), (5001, 0), (5001, 1), (5001, 2), (5001, 4), (5001, 3)] [.ref a0, .int (iI x1), .int (iI x2), .int (iI x3), .int (iI x4), .int (iI x5)] S g (fun (r : Option Value) (S1 : xT) (g1 : xG) (dc ds : Nat) => xNw2 S S1 [] ∧ r = none ∧ (∀ k9 : Nat, xok S1 (xsl 1 k9) (g1 a0 k9)) ∧ (dc = 0 ∧ ds = 0) ∧ (g1 a0 0 = .int (iI x1)) ∧ (g1 a0 1 = .int (iI x2)) ∧ (g1 a0 2 = .int (iI x3)) ∧ (g1 a0 3 = .int (iI x5)) ∧ (g1 a0 4 = .int (iI x4)) ∧ (g1 a0 5 = .int (iI 0))) := by
  refine xEnterUV (by decide) (by simp [lg_sl, Value.category]) [(0, .ref a0), (1, .int (iI x1)), (2, .int (iI x2)), (3, .int (iI x3)), (4, .int (iI x4)), (5, .int (iI x5))] rfl ?_
  intro K E hK hret hS0 _ hini ht
  subst ht
  refine X_aloadn hK (i := 0) 0 kd43_0.1 rfl rfl ?_
  refine X_oinit hK ⟨m_12_20, m_1_11, m_1_12⟩ ⟨by decide, by simp [Value.category]⟩ kd43_0.2.1 ?_
  refine X_aloadn hK (i := 0) 0 kd43_0.2.2.1 rfl rfl ?_
  refine X_iconst hK kd43_0.2.2.2.1 ?_
  refine X_putv hK fl_X0_7_5001 hs_a0 (by decide) (xokr 1 5 (by decide)) rfl rfl kd43_0.2.2.2.2.1 (fun g1 hg1 => ?_)
  refine X_aloadn hK (i := 0) 0 kd43_0.2.2.2.2.2.1 rfl rfl ?_
  refine X_iloadn hK (i := 1) 1 kd43_0.2.2.2.2.2.2.1 rfl rfl ?_
  refine X_putF hK fl_X0_13_5001 (fun T9 N9 C9 h9 => by cases (Option.some.inj (h9.symm.trans (rfl : vwCl[1]? = some (RX0, TX0, 6)))); rfl) (hini rfl) hs_a0 (Or.inr (by decide)) (xokr 1 0 (by decide)) rfl rfl kd43_0.2.2.2.2.2.2.2.1 (fun g2 hg2 => ?_)
  refine X_aloadn hK (i := 0) 0 kd43_0.2.2.2.2.2.2.2.2.1 rfl rfl ?_
  refine X_iloadn hK (i := 2) 2 kd43_0.2.2.2.2.2.2.2.2.2.1 rfl rfl ?_
  refine X_putF hK fl_X0_16_5001 (fun T9 N9 C9 h9 => by cases (Option.some.inj (h9.symm.trans (rfl : vwCl[1]? = some (RX0, TX0, 6)))); rfl) (hini rfl) hs_a0 (Or.inr (by decide)) (xokr 1 1 (by decide)) rfl rfl kd43_0.2.2.2.2.2.2.2.2.2.2.1 (fun g3 hg3 => ?_)
  refine X_aloadn hK (i := 0) 0 kd43_0.2.2.2.2.2.2.2.2.2.2.2 rfl rfl ?_
  refine X_iloadn hK (i := 3) 3 kd43_1.1 rfl rfl ?_
  refine X_putF hK fl_X0_19_5001 (fun T9 N9 C9 h9 => by cases (Option.some.inj (h9.symm.trans (rfl : vwCl[1]? = some (RX0, TX0, 6)))); rfl) (hini rfl) hs_a0 (Or.inr (by decide)) (xokr 1 2 (by decide)) (b01 (by omega) (by omega)).1 (b01 (by omega) (by omega)).2 kd43_1.2.1 (fun g4 hg4 => ?_)
  refine X_aloadn hK (i := 0) 0 kd43_1.2.2.1 rfl rfl ?_
  refine X_iload hK (i := 4) 4 kd43_1.2.2.2.1 rfl ?_
  refine X_putv hK fl_X0_23_5001 hs_a0 (by decide) (xokr 1 4 (by decide)) rfl rfl kd43_1.2.2.2.2.1 (fun g5 hg5 => ?_)
  refine X_aloadn hK (i := 0) 0 kd43_1.2.2.2.2.2.1 rfl rfl ?_
  refine X_iload hK (i := 5) 5 kd43_1.2.2.2.2.2.2.1 rfl ?_
  refine X_putF hK fl_X0_26_5001 (fun T9 N9 C9 h9 => by cases (Option.some.inj (h9.symm.trans (rfl : vwCl[1]? = some (RX0, TX0, 6)))); rfl) (hini rfl) hs_a0 (Or.inr (by decide)) (xokr 1 3 (by decide)) rfl rfl kd43_1.2.2.2.2.2.2.2.1 (fun g6 hg6 => ?_)
  exact hret _ _ _ _ _ _ kd43_1.2.2.2.2.2.2.2.2.1 ⟨xNw2.rf, rfl, (fun k9 => match k9 with | 0 => xk0 sl_1_0 ((xs_k hg6 (by decide)).trans ((xs_k hg5 (by decide)).trans ((xs_k hg4 (by decide)).trans ((xs_k hg3 (by decide)).trans (xs_s hg2))))) (by omega) (by omega) | 1 => xk0 sl_1_1 ((xs_k hg6 (by decide)).trans ((xs_k hg5 (by decide)).trans ((xs_k hg4 (by decide)).trans (xs_s hg3)))) (by omega) (by omega) | 2 => xk0 sl_1_2 ((xs_k hg6 (by decide)).trans ((xs_k hg5 (by decide)).trans (xs_s hg4))) (by omega) (by omega) | 3 => xk0 sl_1_3 (xs_s hg6) (by omega) (by omega) | 4 => xk0 sl_1_4 ((xs_k hg6 (by decide)).trans (xs_s hg5)) (by omega) (by omega) | 5 => xk0 sl_1_5 ((xs_k hg6 (by decide)).trans ((xs_k hg5 (by decide)).trans ((xs_k hg4 (by decide)).trans ((xs_k hg3 (by decide)).trans ((xs_k hg2 (by decide)).trans (xs_s hg1)))))) (by omega) (by omega) | n9 + 6 => xk9 (by rfl)), (by omega), ((xs_k hg6 (by decide)).trans ((xs_k hg5 (by decide)).trans ((xs_k hg4 (by decide)).trans ((xs_k hg3 (by decide)).trans (xs_s hg2))))), ((xs_k hg6 (by decide)).trans ((xs_k hg5 (by decide)).trans ((xs_k hg4 (by decide)).trans (xs_s hg3)))), ((xs_k hg6 (by decide)).trans ((xs_k hg5 (by decide)).trans (xs_s hg4))), (xs_s hg6), ((xs_k hg6 (by decide)).trans (xs_s hg5)), ((xs_k hg6 (by decide)).trans ((xs_k hg5 (by decide)).trans ((xs_k hg4 (by decide)).trans ((xs_k hg3 (by decide)).trans ((xs_k hg2 (by decide)).trans (xs_s hg1))))))⟩ (by omega) (by omega)

set_option maxHeartbeats 4000000 in
set_option maxRecDepth 100000 in
theorem m_boy (l : Launch) (D : va_G) (kA : Nat → ClassId) (b0 : Nat) (t0 : Nat → Nat) (S : xT) (g : xG) (a0 : Nat) (x1 : Int) (x2 : Int) (x3 : Int) (x4 : Int) (m0 : Nat) (l0 : Nat) (n0 : Int) (bn : Nat) (nu : Int) (U : Int → Nat) (B : Int → Nat) (Y : Nat → Int → Int) (YB : Nat → Int → Int) (hs_a0 : S a0 = some (12, 0)) (hx1 : (-2147483648) ≤ x1 ∧ x1 ≤ 2147483647) (hx2 : 0 ≤ x2 ∧ x2 ≤ 1) (hx3 : (-2147483648) ≤ x3 ∧ x3 ≤ 2147483647) (hx4 : (-2147483648) ≤ x4 ∧ x4 ≤ 2147483647) (em0 : g a0 1 = .ref m0) (hs_m0 : S m0 = some (6, 0)) (el0 : g m0 1 = .ref l0) (hs_l0 : S l0 = some (0, 0)) (hn0 : 0 ≤ n0 ∧ n0 ≤ 40) (en0 : g l0 2 = .int (iI n0)) (ebn : g m0 2 = .ref bn) (hs_bn : S bn = some (100, 0)) (hnu : 0 ≤ nu ∧ nu ≤ 200) (enu : g bn 2 = .int (iI nu)) (hp0 : xLs S g) (hp1 : xSi S t0) (hp2 : xBW S g l0 n0 B YB) (hp3 : xUW S g bn nu n0 U B Y) : xMu l yX11_boy cX11_boy 6 (some .int) 7 2 250 164 D kA b0 t0 [(5001, 5), (5001, 0), (5001, 1), (5001, 2), (5001, 4), (5001, 3), (0, 0), (0, 1), (0, 2), (10103, 0)] [.ref a0, .int (iI x1), .int (iI x2), .int (iI x3), .int (iI x4)] S g (fun (r : Option Value) (S1 : xT) (g1 : xG) (dc ds : Nat) => xNw2 S S1 [5001, 1, 10103] ∧ ∃ z : Int, r = some (.int (iI z)) ∧ (-1) ≤ z ∧ z ≤ 40 ∧ (xLs S1 g1) ∧ (xSi S1 t0) ∧ (dc ≤ 2 ∧ ds ≤ 250) ∧ (z = if n0 < 40 ∧ 6 ≤ x1 ∧ x1 ≤ 18 ∧ -1 ≤ x3 ∧ x3 ≤ 399 ∧ 0 ≤ x4 ∧ x4 ≤ 99 then n0 else -1) ∧ (g1 l0 2 = .int (iI (if n0 < 40 ∧ 6 ≤ x1 ∧ x1 ≤ 18 ∧ -1 ≤ x3 ∧ x3 ≤ 399 ∧ 0 ≤ x4 ∧ x4 ≤ 99 then n0 + 1 else n0))) ∧ (∃ B1 : Int → Nat, xBW S1 g1 l0 (if n0 < 40 ∧ 6 ≤ x1 ∧ x1 ≤ 18 ∧ -1 ≤ x3 ∧ x3 ≤ 399 ∧ 0 ≤ x4 ∧ x4 ≤ 99 then n0 + 1 else n0) B1 (if n0 < 40 ∧ 6 ≤ x1 ∧ x1 ≤ 18 ∧ -1 ≤ x3 ∧ x3 ≤ 399 ∧ 0 ≤ x4 ∧ x4 ≤ 99 then xyb YB n0 x1 x2 x4 x3 else YB) ∧ xUW S1 g1 bn nu (if n0 < 40 ∧ 6 ≤ x1 ∧ x1 ≤ 18 ∧ -1 ≤ x3 ∧ x3 ≤ 399 ∧ 0 ≤ x4 ∧ x4 ≤ 99 then n0 + 1 else n0) U B1 Y)) := by
  refine xEnterUI (by decide) (by simp [lg_sl, Value.category]) [(0, .ref a0), (1, .int (iI x1)), (2, .int (iI x2)), (3, .int (iI x3)), (4, .int (iI x4))] rfl ?_
  intro K E hK hret hS0 _ hini ht
  subst ht
  refine X_aloadn hK (i := 0) 0 kd43_4.2.2.2.2.2.1 rfl rfl ?_
  refine X_getK hK fl_X11_19_12 hs_a0 em0 kd43_4.2.2.2.2.2.2.1 ?_
  refine X_getK hK fl_X11_109_6 hs_m0 el0 kd43_4.2.2.2.2.2.2.2.1 ?_
  refine X_callV hK [] [] lk_X11_112 (c_size_0 _ _ _ _ _ S g l0 n0 hs_l0 (by omega) en0 hp0) hs_l0 ⟨by decide, rfl⟩ kd43_4.2.2.2.2.2.2.2.2.1 rfl rfl (by simp [Value.category]) (by decide) (by omega) (by omega) (by decide) (fun r1 S3 g2 pr1 qr1 hg2 => ?_)
  obtain ⟨rfl, rfl, z4, rfl, lz4, uz4, k5⟩ := pr1
  refine X_st [.int (iI z4)] rfl ?_
  refine X_bipush hK kd43_4.2.2.2.2.2.2.2.2.2.1 (by decide) ?_
  refine X_icmp_ge hK 44 (by omega) (by omega) kd43_4.2.2.2.2.2.2.2.2.2.2.1 (by decide) (fun c6 => ?_) (fun c6 => ?_)
  · refine X_iconst hK kd43_6.1 ?_
    exact hret _ _ _ _ _ _ _ kd43_6.2.1 ⟨xNw2.rf, (-1), rfl, (by omega), (by omega), hp0, hp1, (by omega), (by omega), (en0.trans (by congr 2 <;> omega)), ⟨B, (by rw [if_neg (by omega), if_neg (by omega)]; exact hp2), (by rw [if_neg (by omega)]; exact hp3)⟩⟩ (by omega) (by omega)
  · refine X_iloadn hK (i := 1) 1 kd43_4.2.2.2.2.2.2.2.2.2.2.2 rfl rfl ?_
    refine X_bipush hK kd43_5.1 (by decide) ?_
    refine X_bipush hK kd43_5.2.1 (by decide) ?_
    refine X_callS hK [.int (iI x1), .int (iI 6), .int (iI 18)] [] lk_X11_115 (c_X11_within _ _ _ _ _ S g x1 6 18 (by omega) (by omega) (by omega)) kd43_5.2.2.1 rfl rfl (by simp [Value.category]) (by decide) (by omega) (by omega) (by decide) (fun r7 S9 g8 pr7 qr7 hg8 => ?_)
    obtain ⟨rfl, rfl, z10, rfl, lz10, uz10, k11⟩ := pr7
    refine X_st [.int (iI z10)] rfl ?_
    refine X_if_eq hK 44 (by omega) kd43_5.2.2.2.1 (by decide) (fun c12 => ?_) (fun c12 => ?_)
    · refine X_iconst hK kd43_6.1 ?_
      exact hret _ _ _ _ _ _ _ kd43_6.2.1 ⟨xNw2.rf, (-1), rfl, (by omega), (by omega), hp0, hp1, (by omega), (by omega), (en0.trans (by congr 2 <;> omega)), ⟨B, (by rw [if_neg (by omega), if_neg (by omega)]; exact hp2), (by rw [if_neg (by omega)]; exact hp3)⟩⟩ (by omega) (by omega)
    · refine X_iloadn hK (i := 3) 3 kd43_5.2.2.2.2.1 rfl rfl ?_
      refine X_callS hK [.int (iI x3)] [] lk_X11_119 (c_X11_isBadge _ _ _ _ _ S g x3 (by omega)) kd43_5.2.2.2.2.2.1 rfl rfl (by simp [Value.category]) (by decide) (by omega) (by omega) (by decide) (fun r13 S15 g14 pr13 qr13 hg14 => ?_)
      obtain ⟨rfl, rfl, z16, rfl, lz16, uz16, k17⟩ := pr13
      refine X_st [.int (iI z16)] rfl ?_
      refine X_if_eq hK 44 (by omega) kd43_5.2.2.2.2.2.2.1 (by decide) (fun c18 => ?_) (fun c18 => ?_)
      · refine X_iconst hK kd43_6.1 ?_
        exact hret _ _ _ _ _ _ _ kd43_6.2.1 ⟨xNw2.rf, (-1), rfl, (by omega), (by omega), hp0, hp1, (by omega), (by omega), (en0.trans (by congr 2 <;> omega)), ⟨B, (by rw [if_neg (by omega), if_neg (by omega)]; exact hp2), (by rw [if_neg (by omega)]; exact hp3)⟩⟩ (by omega) (by omega)
      · refine X_iload hK (i := 4) 4 kd43_5.2.2.2.2.2.2.2.1 rfl ?_
        refine X_iconst hK kd43_5.2.2.2.2.2.2.2.2.1 ?_
        refine X_bipush hK kd43_5.2.2.2.2.2.2.2.2.2.1 (by decide) ?_
        refine X_callS hK [.int (iI x4), .int (iI 0), .int (iI 99)] [] lk_X11_115 (c_X11_within _ _ _ _ _ S g x4 0 99 (by omega) (by omega) (by omega)) kd43_5.2.2.2.2.2.2.2.2.2.2.1 rfl rfl (by simp [Value.category]) (by decide) (by omega) (by omega) (by decide) (fun r19 S21 g20 pr19 qr19 hg20 => ?_)
        obtain ⟨rfl, rfl, z22, rfl, lz22, uz22, k23⟩ := pr19
        refine X_st [.int (iI z22)] rfl ?_
        refine X_if_ne hK 46 (by omega) kd43_5.2.2.2.2.2.2.2.2.2.2.2 (by decide) (fun c24 => ?_) (fun c24 => ?_)
        · refine X_aloadn hK (i := 0) 0 kd43_6.2.2.1 rfl rfl ?_
          refine X_getK hK fl_X11_19_12 hs_a0 em0 kd43_6.2.2.2.1 ?_
          refine X_getK hK fl_X11_109_6 hs_m0 el0 kd43_6.2.2.2.2.1 ?_
          refine X_callV hK [] [] lk_X11_112 (c_size_0 _ _ _ _ _ S g l0 n0 hs_l0 (by omega) en0 hp0) hs_l0 ⟨by decide, rfl⟩ kd43_6.2.2.2.2.2.1 rfl rfl (by simp [Value.category]) (by decide) (by omega) (by omega) (by decide) (fun r25 S27 g26 pr25 qr25 hg26 => ?_)
          obtain ⟨rfl, rfl, z28, rfl, lz28, uz28, k29⟩ := pr25
          refine X_st [.int (iI z28)] rfl ?_
          refine X_istore hK (i := 5) [(5, .int (iI z28)), (0, .ref a0), (1, .int (iI x1)), (2, .int (iI x2)), (3, .int (iI x3)), (4, .int (iI x4))] kd43_6.2.2.2.2.2.2.1 (by decide) rfl ?_
          refine X_aloadn hK (i := 0) 1 kd43_6.2.2.2.2.2.2.2.1 rfl rfl ?_
          refine X_getK hK fl_X11_19_12 hs_a0 em0 kd43_6.2.2.2.2.2.2.2.2.1 ?_
          refine X_getK hK fl_X11_109_6 hs_m0 el0 kd43_6.2.2.2.2.2.2.2.2.2.1 ?_
          refine X_new hK nw_X11_123 (by omega) (by omega) kd43_6.2.2.2.2.2.2.2.2.2.2.1 (fun b30 S31 g32 zb30 nb30 hSb30 hg32 qb30 hs_b30 => ?_)
          have A33 : xLs S31 g32 := xLs_al hp0 (hg32 ▸ xM_new (L := []) xM.rf nb30) rfl qb30 (xNw2.one hSb30) (by decide)
          refine X_dup hK kd43_6.2.2.2.2.2.2.2.2.2.2.2 rfl ?_
          refine X_iload hK (i := 5) 0 kd43_7.1 rfl ?_
          refine X_iloadn hK (i := 1) 2 kd43_7.2.1 rfl rfl ?_
          refine X_iloadn hK (i := 2) 3 kd43_7.2.2.1 rfl rfl ?_
          refine X_iloadn hK (i := 3) 4 kd43_7.2.2.2.1 rfl rfl ?_
          refine X_iload hK (i := 4) 5 kd43_7.2.2.2.2.1 rfl ?_
          refine X_callIU hK [.int (iI z28), .int (iI x1), .int (iI x2), .int (iI x3), .int (iI x4)] [.ref b30, .ref l0] li_X11_125 (m_init0 _ _ _ _ _ S31 g32 b30 z28 x1 x2 x3 x4 hs_b30 (by omega) (by omega) (by omega) (by omega) (by omega)) kd43_7.2.2.2.2.2.1 rfl rfl (by simp [Value.category]) (by decide) (by omega) (by omega) (by decide) (fun r34 S36 g35 dcr34 dsr34 pr34 qr34 hg35 => ?_)
          obtain ⟨wr34, rfl, k37, k38, k39, k40, k41, k42, k43, k44⟩ := pr34
          have A45 : xLs S36 g35 := xLs_al A33 hg35 (by decide) qr34 wr34 (by decide)
          refine X_st [.ref b30, .ref l0] rfl ?_
          refine X_seal (ci := 1) zb30 (qr34 _ _ hs_b30) (by decide) k37 (fun a9 t9 n9 k9 _ _ _ c9 h9 => Or.inr (h9 ▸ xsl_raw t9 k9 (by omega))) (fun k9 => xsl_raw _ k9 (by omega)) (fun S46 hSy47 hs_y47 hoy47 => ?_)
          have hm9 : xM [(5001, 5), (5001, 0), (5001, 1), (5001, 2), (5001, 4), (5001, 3)] S g g35 := xM.tr (hg32 ▸ xM_new (L := [(5001, 5), (5001, 0), (5001, 1), (5001, 2), (5001, 4), (5001, 3)]) xM.rf nb30) qb30 hg35 (by decide)
          have hl9 : xLe S S46 := xLe.sl nb30 (xLe.tr qb30 qr34) hSy47
          have hxBW9 := xBW.m hp2 hm9 hl9 (by decide)
          have hxUW9 := xUW.m hp3 hm9 hl9 (by decide)
          refine X_callVU hK [.ref b30] [] lk_X11_128 (c_addW_0 _ _ _ _ _ S46 g35 l0 b30 n0 (xhs_seal hoy47 (qr34 _ _ hs_b30) (qr34 _ _ (qb30 _ _ hs_l0)) (by decide)) hs_y47 (by omega) ((hg35 l0 0 0 2 (qb30 _ _ hs_l0) (by decide)).trans ((xs_n hg32 hs_l0 nb30).trans en0)) (xLs_seal A45 (qr34 _ _ hs_b30) hSy47 (by decide) (by decide)) (xSi.nw (xSi.nw (xSi.nw hp1 (xNw2.one hSb30) (by decide)) wr34 (by decide)) (xNw2.one hSy47) (by decide))) (xhs_seal hoy47 (qr34 _ _ hs_b30) (qr34 _ _ (qb30 _ _ hs_l0)) (by decide)) ⟨by decide, rfl⟩ kd43_7.2.2.2.2.2.2.1 rfl rfl (by simp [Value.category]) (by decide) (by omega) (by omega) (by decide) (fun r48 S50 g49 dcr48 dsr48 pr48 qr48 hg49 => ?_)
          obtain ⟨wr48, z51, rfl, lz51, uz51, k52, k53, k54, k55⟩ := pr48
          refine X_st [.int (iI z51)] rfl ?_
          refine X_pop hK kd43_7.2.2.2.2.2.2.2.1 rfl ?_
          refine X_iload hK (i := 5) 0 kd43_7.2.2.2.2.2.2.2.2.1 rfl ?_
          exact hret _ _ _ _ _ _ _ kd43_7.2.2.2.2.2.2.2.2.2.1 ⟨(xNw2.tr (xNw2.tr (xNw2.tr (xNw2.tr xNw2.rf (hSb30 ▸ xNw2.set (by decide)) (fun _ h => h)) wr34 (by decide)) (hSy47 ▸ xNw2.set (by decide)) (fun _ h => h)) wr48 (by decide)), z28, rfl, (by omega), (by omega), k52, (xSi.nw (xSi.nw (xSi.nw (xSi.nw hp1 (xNw2.one hSb30) (by decide)) wr34 (by decide)) (xNw2.one hSy47) (by decide)) wr48 (by decide)), (by omega), (by omega), (k53.trans (by congr 2 <;> omega)), ⟨_, (by rw [if_pos (by omega), if_pos (by omega)]; exact (xBW.add hxBW9 (by omega) (Lb := []) xM.rf (by decide) (fun k9 r1 r2 f9 hf => hg49 _ 1 0 f9 (hxBW9.2 k9 r1 r2).2.1 (by rw [xky_o (by decide)]; rcases (show f9 = 0 ∨ f9 = 1 ∨ f9 = 2 ∨ f9 = 3 ∨ f9 = 4 ∨ f9 = 5 by omega) with e9 | e9 | e9 | e9 | e9 | e9 <;> subst e9 <;> decide)) qr48 (xLv.of (qr48 _ _ (xhs_seal hoy47 (qr34 _ _ hs_b30) (qr34 _ _ (qb30 _ _ hs_l0)) (by decide))) ((xLs_0 k52).2 l0 0 (qr48 _ _ (xhs_seal hoy47 (qr34 _ _ hs_b30) (qr34 _ _ (qb30 _ _ hs_l0)) (by decide)))) k53 (by omega)) k55 (qr48 _ _ hs_y47) (by have h9 := ((hg49 b30 1 0 0 hs_y47 (by decide)).trans k39); rw [show z28 = n0 by omega] at h9; exact h9) ((hg49 b30 1 0 1 hs_y47 (by decide)).trans k40) ((hg49 b30 1 0 2 hs_y47 (by decide)).trans k41) ((hg49 b30 1 0 3 hs_y47 (by decide)).trans k42) ((hg49 b30 1 0 4 hs_y47 (by decide)).trans k43) ((hg49 b30 1 0 5 hs_y47 (by decide)).trans k44) (by omega) (by omega) (by omega) (by omega))), (by rw [if_pos (by omega)]; exact xUW.boy (xUW.m hxUW9 hg49 qr48 (by decide)))⟩⟩ (by omega) (by omega)
        · refine X_iconst hK kd43_6.1 ?_
          exact hret _ _ _ _ _ _ _ kd43_6.2.1 ⟨xNw2.rf, (-1), rfl, (by omega), (by omega), hp0, hp1, (by omega), (by omega), (en0.trans (by congr 2 <;> omega)), ⟨B, (by rw [if_neg (by omega), if_neg (by omega)]; exact hp2), (by rw [if_neg (by omega)]; exact hp3)⟩⟩ (by omega) (by omega)

set_option maxHeartbeats 4000000 in
set_option maxRecDepth 100000 in
theorem m_badge (l : Launch) (D : va_G) (kA : Nat → ClassId) (b0 : Nat) (t0 : Nat → Nat) (S : xT) (g : xG) (a0 : Nat) (x1 : Int) (x2 : Int) (m0 : Nat) (l0 : Nat) (n0 : Int) (B : Int → Nat) (YB : Nat → Int → Int) (hs_a0 : S a0 = some (12, 0)) (hx1 : (-2147483648) ≤ x1 ∧ x1 ≤ 2147483647) (hx2 : (-2147483648) ≤ x2 ∧ x2 ≤ 2147483647) (em0 : g a0 1 = .ref m0) (hs_m0 : S m0 = some (6, 0)) (el0 : g m0 1 = .ref l0) (hs_l0 : S l0 = some (0, 0)) (hn0 : 0 ≤ n0 ∧ n0 ≤ 40) (en0 : g l0 2 = .int (iI n0)) (hp0 : xLs S g) (hp1 : xBW S g l0 n0 B YB) : xMt l yX11_badge cX11_badge 3 (some .boolean) 3 0 0 64 D kA b0 t0 [(1, 4)] [.ref a0, .int (iI x1), .int (iI x2)] S g (fun (r : Option Value) (S1 : xT) (g1 : xG) => S = S1 ∧ ∃ z : Int, r = some (.int (iI z)) ∧ 0 ≤ z ∧ z ≤ 1 ∧ ((z = 1 ↔ 0 ≤ x1 ∧ x1 < n0 ∧ -1 ≤ x2 ∧ x2 ≤ 399)) ∧ (xBW S g1 l0 n0 B (if z = 1 then xyu YB 4 x1 x2 else YB))) := by
  refine xEnterZ (by decide) (by simp [lg_sl, Value.category]) [(0, .ref a0), (1, .int (iI x1)), (2, .int (iI x2))] rfl ?_
  intro K E hK hret _ _ _
  refine X_aloadn hK (i := 0) 0 kd42_5.2.2.2.2.1 rfl rfl ?_
  refine X_getK hK fl_X11_19_12 hs_a0 em0 kd42_5.2.2.2.2.2.1 ?_
  refine X_iloadn hK (i := 1) 1 kd42_5.2.2.2.2.2.2.1 rfl rfl ?_
  refine X_callV hK [.int (iI x1)] [] lk_X11_132 (c4_hasBoy _ _ _ _ _ S g m0 x1 l0 n0 hs_m0 (by omega) el0 hs_l0 (by omega) en0 hp0) hs_m0 ⟨by decide, rfl⟩ kd42_5.2.2.2.2.2.2.2.1 rfl rfl (by simp [Value.category]) (by decide) (by decide) (by decide) (by decide) (fun r1 S3 g2 pr1 qr1 hg2 => ?_)
  obtain ⟨rfl, rfl, z4, rfl, lz4, uz4, k5⟩ := pr1
  refine X_st [.int (iI z4)] rfl ?_
  refine X_if_eq hK 18 (by omega) kd42_5.2.2.2.2.2.2.2.2.1 (by decide) (fun c6 => ?_) (fun c6 => ?_)
  · refine X_iconst hK kd42_6.1 ?_
    exact hret _ _ _ _ _ _ _ kd42_6.2.1 (by omega) (by omega) ⟨rfl, 0, rfl, (by omega), (by omega), (by omega), (by rw [if_neg (by omega)]; exact hp1)⟩ (Nat.le_refl _) (Nat.le_refl _)
  · refine X_iloadn hK (i := 2) 2 kd42_5.2.2.2.2.2.2.2.2.2.1 rfl rfl ?_
    refine X_callS hK [.int (iI x2)] [] lk_X11_119 (c_X11_isBadge _ _ _ _ _ S g x2 (by omega)) kd42_5.2.2.2.2.2.2.2.2.2.2.1 rfl rfl (by simp [Value.category]) (by decide) (by decide) (by decide) (by decide) (fun r7 S9 g8 pr7 qr7 hg8 => ?_)
    obtain ⟨rfl, rfl, z10, rfl, lz10, uz10, k11⟩ := pr7
    refine X_st [.int (iI z10)] rfl ?_
    refine X_if_ne hK 20 (by omega) kd42_5.2.2.2.2.2.2.2.2.2.2.2 (by decide) (fun c12 => ?_) (fun c12 => ?_)
    · refine X_aloadn hK (i := 0) 0 kd42_6.2.2.1 rfl rfl ?_
      refine X_getK hK fl_X11_19_12 hs_a0 em0 kd42_6.2.2.2.1 ?_
      refine X_getK hK fl_X11_109_6 hs_m0 el0 kd42_6.2.2.2.2.1 ?_
      refine X_iloadn hK (i := 1) 1 kd42_6.2.2.2.2.2.1 rfl rfl ?_
      refine X_callV hK [.int (iI x1)] [] lk_X11_135 (c_get_0 _ _ _ _ _ S g l0 x1 n0 hs_l0 (by omega) (by omega) en0 hp0 (by omega)) hs_l0 ⟨by decide, rfl⟩ kd42_6.2.2.2.2.2.2.1 rfl rfl (by simp [Value.category]) (by decide) (by decide) (by decide) (by decide) (fun r13 S15 g14 pr13 qr13 hg14 => ?_)
      obtain ⟨rfl, rfl, b16, rfl, hs_b16, k17⟩ := pr13
      refine X_st [.ref b16] rfl ?_
      have he18 : b16 = B x1 := k17.trans (hp1.2 x1 (by omega) (by omega)).1
      refine X_cast hK hs_b16 ⟨by decide, rfl⟩ m_12_0 kd42_6.2.2.2.2.2.2.2.1 ?_
      refine X_iloadn hK (i := 2) 2 kd42_6.2.2.2.2.2.2.2.2.1 rfl rfl ?_
      refine X_puti hK fl_X11_139_1 hs_b16 (by decide) sl_1_4 (by omega) (by omega) kd42_6.2.2.2.2.2.2.2.2.2.1 (fun g19 hg19 => ?_)
      refine X_iconst hK kd42_6.2.2.2.2.2.2.2.2.2.2.1 ?_
      exact hret _ _ _ _ _ _ _ kd42_6.2.2.2.2.2.2.2.2.2.2.2 (by omega) (by omega) ⟨rfl, 1, rfl, (by omega), (by omega), (by omega), (by rw [if_pos rfl]; exact xBW.bad hp1 (by omega) (by omega) (by rw [← he18]; exact hg19) (by omega))⟩ (Nat.le_refl _) (Nat.le_refl _)
    · refine X_iconst hK kd42_6.1 ?_
      exact hret _ _ _ _ _ _ _ kd42_6.2.1 (by omega) (by omega) ⟨rfl, 0, rfl, (by omega), (by omega), (by omega), (by rw [if_neg (by omega)]; exact hp1)⟩ (Nat.le_refl _) (Nat.le_refl _)

set_option maxHeartbeats 4000000 in
set_option maxRecDepth 100000 in
theorem m_owner (l : Launch) (D : va_G) (kA : Nat → ClassId) (b0 : Nat) (t0 : Nat → Nat) (S : xT) (g : xG) (a0 : Nat) (x1 : Int) (x2 : Int) (m0 : Nat) (l0 : Nat) (n0 : Int) (ct : Nat) (ow : Nat) (hs_a0 : S a0 = some (12, 0)) (hx1 : (-2147483648) ≤ x1 ∧ x1 ≤ 2147483647) (hx2 : (-2147483648) ≤ x2 ∧ x2 ≤ 2147483647) (em0 : g a0 1 = .ref m0) (hs_m0 : S m0 = some (6, 0)) (el0 : g m0 1 = .ref l0) (hs_l0 : S l0 = some (0, 0)) (hn0 : 0 ≤ n0 ∧ n0 ≤ 40) (en0 : g l0 2 = .int (iI n0)) (ect : g a0 2 = .ref ct) (hs_ct : S ct = some (4, 0)) (eow : g ct 5 = .ref ow) (hs_ow : S ow = some (11400, 10)) (hp0 : xLs S g) : xMt l yX11_owner cX11_owner 3 (some .boolean) 2 0 0 42 D kA b0 t0 [(11400, 0)] [.ref a0, .int (iI x1), .int (iI x2)] S g (fun (r : Option Value) (S1 : xT) (g1 : xG) => S = S1 ∧ ∃ z : Int, r = some (.int (iI z)) ∧ 0 ≤ z ∧ z ≤ 1 ∧ ((z = 1 ↔ 0 ≤ x1 ∧ x1 ≤ 9 ∧ -1 ≤ x2 ∧ x2 < n0)) ∧ ((z = 1 → xUp (xv g1 ow) (xv g ow) x1 x2) ∧ (z ≠ 1 → xv g1 ow = xv g ow))) := by
  refine xEnterZ (by decide) (by simp [lg_sl, Value.category]) [(0, .ref a0), (1, .int (iI x1)), (2, .int (iI x2))] rfl ?_
  intro K E hK hret _ _ _
  refine X_iloadn hK (i := 1) 1 kd42_30.2.2.1 rfl rfl ?_
  refine X_callS hK [.int (iI x1)] [] lk_X11_142 (c_X11_isCorner _ _ _ _ _ S g x1 (by omega)) kd42_30.2.2.2.1 rfl rfl (by simp [Value.category]) (by decide) (by decide) (by decide) (by decide) (fun r1 S3 g2 pr1 qr1 hg2 => ?_)
  obtain ⟨rfl, rfl, z4, rfl, lz4, uz4, k5⟩ := pr1
  refine X_st [.int (iI z4)] rfl ?_
  refine X_if_eq hK 23 (by omega) kd42_30.2.2.2.2.1 (by decide) (fun c6 => ?_) (fun c6 => ?_)
  · refine X_iconst hK kd42_31.2.1 ?_
    exact hret _ _ _ _ _ _ _ kd42_31.2.2.1 (by omega) (by omega) ⟨rfl, 0, rfl, (by omega), (by omega), (by omega), ⟨fun h9 => by omega, fun _ => rfl⟩⟩ (Nat.le_refl _) (Nat.le_refl _)
  · refine X_iloadn hK (i := 2) 2 kd42_30.2.2.2.2.2.1 rfl rfl ?_
    refine X_iconst hK kd42_30.2.2.2.2.2.2.1 ?_
    refine X_icmp_eq hK 25 (by omega) (by omega) kd42_30.2.2.2.2.2.2.2.1 (by decide) (fun c7 => ?_) (fun c7 => ?_)
    · refine X_aloadn hK (i := 0) 0 kd42_31.2.2.2.1 rfl rfl ?_
      refine X_getK hK fl_X11_27_12 hs_a0 ect kd42_31.2.2.2.2.1 ?_
      refine X_getK hK fl_X11_145_4 hs_ct eow kd42_31.2.2.2.2.2.1 ?_
      refine X_iloadn hK (i := 1) 1 kd42_31.2.2.2.2.2.2.1 rfl rfl ?_
      refine X_iloadn hK (i := 2) 2 kd42_31.2.2.2.2.2.2.2.1 rfl rfl ?_
      refine X_iast hK hs_ow (by decide) (by decide) sl_11400 (by omega) (by omega) (by omega) (by omega) kd42_31.2.2.2.2.2.2.2.2.1 (fun g8 hg8 => ?_)
      refine X_iconst hK kd42_31.2.2.2.2.2.2.2.2.2.1 ?_
      exact hret _ _ _ _ _ _ _ kd42_31.2.2.2.2.2.2.2.2.2.2.1 (by omega) (by omega) ⟨rfl, 1, rfl, (by omega), (by omega), (by omega), ⟨fun _ => xUp.of hg8 (by omega) (by omega), fun h9 => absurd rfl h9⟩⟩ (Nat.le_refl _) (Nat.le_refl _)
    · refine X_aloadn hK (i := 0) 0 kd42_30.2.2.2.2.2.2.2.2.1 rfl rfl ?_
      refine X_getK hK fl_X11_19_12 hs_a0 em0 kd42_30.2.2.2.2.2.2.2.2.2.1 ?_
      refine X_iloadn hK (i := 2) 2 kd42_30.2.2.2.2.2.2.2.2.2.2.1 rfl rfl ?_
      refine X_callV hK [.int (iI x2)] [] lk_X11_132 (c4_hasBoy _ _ _ _ _ S g m0 x2 l0 n0 hs_m0 (by omega) el0 hs_l0 (by omega) en0 hp0) hs_m0 ⟨by decide, rfl⟩ kd42_30.2.2.2.2.2.2.2.2.2.2.2 rfl rfl (by simp [Value.category]) (by decide) (by decide) (by decide) (by decide) (fun r9 S11 g10 pr9 qr9 hg10 => ?_)
      obtain ⟨rfl, rfl, z12, rfl, lz12, uz12, k13⟩ := pr9
      refine X_st [.int (iI z12)] rfl ?_
      refine X_if_ne hK 25 (by omega) kd42_31.1 (by decide) (fun c14 => ?_) (fun c14 => ?_)
      · refine X_aloadn hK (i := 0) 0 kd42_31.2.2.2.1 rfl rfl ?_
        refine X_getK hK fl_X11_27_12 hs_a0 ect kd42_31.2.2.2.2.1 ?_
        refine X_getK hK fl_X11_145_4 hs_ct eow kd42_31.2.2.2.2.2.1 ?_
        refine X_iloadn hK (i := 1) 1 kd42_31.2.2.2.2.2.2.1 rfl rfl ?_
        refine X_iloadn hK (i := 2) 2 kd42_31.2.2.2.2.2.2.2.1 rfl rfl ?_
        refine X_iast hK hs_ow (by decide) (by decide) sl_11400 (by omega) (by omega) (by omega) (by omega) kd42_31.2.2.2.2.2.2.2.2.1 (fun g15 hg15 => ?_)
        refine X_iconst hK kd42_31.2.2.2.2.2.2.2.2.2.1 ?_
        exact hret _ _ _ _ _ _ _ kd42_31.2.2.2.2.2.2.2.2.2.2.1 (by omega) (by omega) ⟨rfl, 1, rfl, (by omega), (by omega), (by omega), ⟨fun _ => xUp.of hg15 (by omega) (by omega), fun h9 => absurd rfl h9⟩⟩ (Nat.le_refl _) (Nat.le_refl _)
      · refine X_iconst hK kd42_31.2.1 ?_
        exact hret _ _ _ _ _ _ _ kd42_31.2.2.1 (by omega) (by omega) ⟨rfl, 0, rfl, (by omega), (by omega), (by omega), ⟨fun h9 => by omega, fun _ => rfl⟩⟩ (Nat.le_refl _) (Nat.le_refl _)

set_option maxHeartbeats 4000000 in
set_option maxRecDepth 100000 in
theorem m_headline (l : Launch) (D : va_G) (kA : Nat → ClassId) (b0 : Nat) (t0 : Nat → Nat) (S : xT) (g : xG) (a0 : Nat) (x1 : Int) (x2 : Int) (x3 : Int) (td : Int) (ct : Nat) (hg : Nat) (hs_a0 : S a0 = some (12, 0)) (hx1 : (-2147483648) ≤ x1 ∧ x1 ≤ 2147483647) (hx2 : (-2147483648) ≤ x2 ∧ x2 ≤ 2147483647) (hx3 : (-2147483648) ≤ x3 ∧ x3 ≤ 2147483647) (htd : 0 ≤ td ∧ td ≤ 400) (etd : g a0 12 = .int (iI td)) (ect : g a0 2 = .ref ct) (hs_ct : S ct = some (4, 0)) (ehg : g ct 1 = .ref hg) (hs_hg : S hg = some (10904, 4)) : xMt l yX11_headline cX11_headline 4 (some .boolean) 2 0 0 42 D kA b0 t0 [(10800, 0)] [.ref a0, .int (iI x1), .int (iI x2), .int (iI x3)] S g (fun (r : Option Value) (S1 : xT) (g1 : xG) => S = S1 ∧ ∃ z : Int, r = some (.int (iI z)) ∧ 0 ≤ z ∧ z ≤ 1 ∧ ((z = 1 ↔ 0 ≤ x1 ∧ x1 ≤ 3 ∧ 0 ≤ x2 ∧ x2 ≤ 399 ∧ td ≤ x2 ∧ 0 ≤ x3 ∧ x3 ≤ 5)) ∧ ((z = 1 → ∃ w : Nat, g hg x1.toNat = .ref w ∧ xFr 10800 S g g1 w ∧ xUp (xv g1 w) (xv g w) x2 x3) ∧ (z ≠ 1 → ∀ a n : Nat, S a = some (10800, n) → xv g1 a = xv g a))) := by
  refine xEnterZ (by decide) (by simp [lg_sl, Value.category]) [(0, .ref a0), (1, .int (iI x1)), (2, .int (iI x2)), (3, .int (iI x3))] rfl ?_
  intro K E hK hret _ _ _
  refine X_iloadn hK (i := 1) 1 kd42_22.2.2.2.2.2.2.2.2.1 rfl rfl ?_
  refine X_callS hK [.int (iI x1)] [] lk_X11_165 (c_X11_isPaper _ _ _ _ _ S g x1 (by omega)) kd42_22.2.2.2.2.2.2.2.2.2.1 rfl rfl (by simp [Value.category]) (by decide) (by decide) (by decide) (by decide) (fun r1 S3 g2 pr1 qr1 hg2 => ?_)
  obtain ⟨rfl, rfl, z4, rfl, lz4, uz4, k5⟩ := pr1
  refine X_st [.int (iI z4)] rfl ?_
  refine X_if_eq hK 29 (by omega) kd42_22.2.2.2.2.2.2.2.2.2.2.1 (by decide) (fun c6 => ?_) (fun c6 => ?_)
  · refine X_iconst hK kd42_23.2.2.2.2.2.2.2.2.2.1 ?_
    exact hret _ _ _ _ _ _ _ kd42_23.2.2.2.2.2.2.2.2.2.2.1 (by omega) (by omega) ⟨rfl, 0, rfl, (by omega), (by omega), (by omega), ⟨fun h9 => by omega, fun _ _ _ _ => rfl⟩⟩ (Nat.le_refl _) (Nat.le_refl _)
  · refine X_iloadn hK (i := 2) 2 kd42_22.2.2.2.2.2.2.2.2.2.2.2 rfl rfl ?_
    refine X_callS hK [.int (iI x2)] [] lk_X11_159 (c_X11_isDay _ _ _ _ _ S g x2 (by omega)) kd42_23.1 rfl rfl (by simp [Value.category]) (by decide) (by decide) (by decide) (by decide) (fun r7 S9 g8 pr7 qr7 hg8 => ?_)
    obtain ⟨rfl, rfl, z10, rfl, lz10, uz10, k11⟩ := pr7
    refine X_st [.int (iI z10)] rfl ?_
    refine X_if_eq hK 29 (by omega) kd42_23.2.1 (by decide) (fun c12 => ?_) (fun c12 => ?_)
    · refine X_iconst hK kd42_23.2.2.2.2.2.2.2.2.2.1 ?_
      exact hret _ _ _ _ _ _ _ kd42_23.2.2.2.2.2.2.2.2.2.2.1 (by omega) (by omega) ⟨rfl, 0, rfl, (by omega), (by omega), (by omega), ⟨fun h9 => by omega, fun _ _ _ _ => rfl⟩⟩ (Nat.le_refl _) (Nat.le_refl _)
    · refine X_iloadn hK (i := 2) 2 kd42_23.2.2.1 rfl rfl ?_
      refine X_aloadn hK (i := 0) 0 kd42_23.2.2.2.1 rfl rfl ?_
      refine X_getK hK fl_X11_83_12 hs_a0 etd kd42_23.2.2.2.2.1 ?_
      refine X_icmp_lt hK 29 (by omega) (by omega) kd42_23.2.2.2.2.2.1 (by decide) (fun c13 => ?_) (fun c13 => ?_)
      · refine X_iconst hK kd42_23.2.2.2.2.2.2.2.2.2.1 ?_
        exact hret _ _ _ _ _ _ _ kd42_23.2.2.2.2.2.2.2.2.2.2.1 (by omega) (by omega) ⟨rfl, 0, rfl, (by omega), (by omega), (by omega), ⟨fun h9 => by omega, fun _ _ _ _ => rfl⟩⟩ (Nat.le_refl _) (Nat.le_refl _)
      · refine X_iloadn hK (i := 3) 3 kd42_23.2.2.2.2.2.2.1 rfl rfl ?_
        refine X_callS hK [.int (iI x3)] [] lk_X11_168 (c_X11_isHeadline _ _ _ _ _ S g x3 (by omega)) kd42_23.2.2.2.2.2.2.2.1 rfl rfl (by simp [Value.category]) (by decide) (by decide) (by decide) (by decide) (fun r14 S16 g15 pr14 qr14 hg15 => ?_)
        obtain ⟨rfl, rfl, z17, rfl, lz17, uz17, k18⟩ := pr14
        refine X_st [.int (iI z17)] rfl ?_
        refine X_if_ne hK 31 (by omega) kd42_23.2.2.2.2.2.2.2.2.1 (by decide) (fun c19 => ?_) (fun c19 => ?_)
        · refine X_aloadn hK (i := 0) 0 kd42_23.2.2.2.2.2.2.2.2.2.2.2 rfl rfl ?_
          refine X_getK hK fl_X11_27_12 hs_a0 ect kd42_24.1 ?_
          refine X_getK hK fl_X11_171_4 hs_ct ehg kd42_24.2.1 ?_
          refine X_iloadn hK (i := 1) 1 kd42_24.2.2.1 rfl rfl ?_
          refine X_aald hK 10800 400 hs_hg (by decide) sl_10904 (by omega) (by omega) kd42_24.2.2.2.1 (fun b20 eb20 hs_b20 => ?_)
          refine X_iloadn hK (i := 2) 2 kd42_24.2.2.2.2.1 rfl rfl ?_
          refine X_iloadn hK (i := 3) 3 kd42_24.2.2.2.2.2.1 rfl rfl ?_
          refine X_iast hK hs_b20 (by decide) (by decide) sl_10800 (by omega) (by omega) (by omega) (by omega) kd42_24.2.2.2.2.2.2.1 (fun g21 hg21 => ?_)
          refine X_iconst hK kd42_24.2.2.2.2.2.2.2.1 ?_
          exact hret _ _ _ _ _ _ _ kd42_24.2.2.2.2.2.2.2.2.1 (by omega) (by omega) ⟨rfl, 1, rfl, (by omega), (by omega), (by omega), ⟨fun _ => ⟨b20, eb20, xFr.w xFr.rf hg21, xUp.of hg21 (by omega) (by omega)⟩, fun h9 => absurd rfl h9⟩⟩ (Nat.le_refl _) (Nat.le_refl _)
        · refine X_iconst hK kd42_23.2.2.2.2.2.2.2.2.2.1 ?_
          exact hret _ _ _ _ _ _ _ kd42_23.2.2.2.2.2.2.2.2.2.2.1 (by omega) (by omega) ⟨rfl, 0, rfl, (by omega), (by omega), (by omega), ⟨fun h9 => by omega, fun _ _ _ _ => rfl⟩⟩ (Nat.le_refl _) (Nat.le_refl _)
