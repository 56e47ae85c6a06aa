
set_option maxHeartbeats 4000000 in
set_option maxRecDepth 100000 in
theorem m_count (l : Launch) (D : va_G) (kA : Nat → ClassId) (b0 : Nat) (t0 : Nat → Nat) (S : xT) (g : xG) (a0 : Nat) (x1 : Int) (td : Int) (m0 : Nat) (bo : Nat) (nb : Int) (bn : Nat) (nu : Int) (tx : Nat) (tn : Int) (lg : Nat) (nc : Int) (w0 : Nat) (n0 : Int) (hs_a0 : S a0 = some (12, 0)) (hx1 : (-2147483648) ≤ x1 ∧ x1 ≤ 2147483647) (htd : 0 ≤ td ∧ td ≤ 400) (etd : g a0 12 = .int (iI td)) (em0 : g a0 1 = .ref m0) (hs_m0 : S m0 = some (6, 0)) (ebo : g m0 1 = .ref bo) (hs_bo : S bo = some (0, 0)) (hnb : 0 ≤ nb ∧ nb ≤ 40) (enb : g bo 2 = .int (iI nb)) (ebn : g m0 2 = .ref bn) (hs_bn : S bn = some (100, 0)) (hnu : 0 ≤ nu ∧ nu ≤ 200) (enu : g bn 2 = .int (iI nu)) (etx : g a0 4 = .ref tx) (hs_tx : S tx = some (300, 0)) (htn : 0 ≤ tn ∧ tn ≤ 10) (etn : g tx 2 = .int (iI tn)) (elg : g a0 3 = .ref lg) (hs_lg : S lg = some (5, 0)) (hnc : 0 ≤ nc ∧ nc ≤ 60) (enc : g lg 3 = .int (iI nc)) (ew0 : g a0 0 = .ref w0) (hs_w0 : S w0 = some (10, 0)) (hn0 : 0 ≤ n0 ∧ n0 ≤ 420) (en0 : g w0 1 = .int (iI n0)) (hp0 : xLs S g) : xMt l yX11_count cX11_count 2 (some .int) 1 0 0 20 D kA b0 t0 [] [.ref a0, .int (iI x1)] S g (fun (r : Option Value) (S1 : xT) (g1 : xG) => S = S1 ∧ g = g1 ∧ ∃ z : Int, r = some (.int (iI z)) ∧ (-1) ≤ z ∧ z ≤ 420 ∧ (z = if x1 = 0 then td else if x1 = 1 then nb else if x1 = 2 then nu else if x1 = 3 then tn else if x1 = 4 then nc else if x1 = 5 then n0 else -1)) := by
  refine xEnterI (by decide) (by simp [lg_sl, Value.category]) [(0, .ref a0), (1, .int (iI x1))] rfl ?_
  intro K E hK hret _ _ _
  refine X_iloadn hK (i := 1) 1 kd42_11.2.2.2.2.2.2.2.1 rfl rfl ?_
  rcases (show (x1 < 0 ∨ 5 < x1) ∨ x1 = 0 ∨ x1 = 1 ∨ x1 = 2 ∨ x1 = 3 ∨ x1 = 4 ∨ x1 = 5 by omega) with c1 | c1 | c1 | c1 | c1 | c1 | c1
  · refine X_tableOut hK 91 (by omega) c1 kd42_11.2.2.2.2.2.2.2.2.1 (by decide) ?_
    refine X_iconst hK kd42_13.2.2.2.2.2.2.2.2.2.2.1 ?_
    exact hret _ _ _ _ _ _ _ kd42_13.2.2.2.2.2.2.2.2.2.2.2 ⟨rfl, rfl, (-1), rfl, (by omega), (by omega), (by omega)⟩ (Nat.le_refl _) (Nat.le_refl _)
  · refine X_tableIn hK 40 0 (by decide) c1 (by decide) (by decide) kd42_11.2.2.2.2.2.2.2.2.1 rfl (by decide) ?_
    refine X_aloadn hK (i := 0) 0 kd42_11.2.2.2.2.2.2.2.2.2.1 rfl rfl ?_
    refine X_getK hK fl_X11_83_12 hs_a0 etd kd42_11.2.2.2.2.2.2.2.2.2.2.1 ?_
    exact hret _ _ _ _ _ _ _ kd42_11.2.2.2.2.2.2.2.2.2.2.2 ⟨rfl, rfl, td, rfl, (by omega), (by omega), (by omega)⟩ (Nat.le_refl _) (Nat.le_refl _)
  · refine X_tableIn hK 45 1 (by decide) c1 (by decide) (by decide) kd42_11.2.2.2.2.2.2.2.2.1 rfl (by decide) ?_
    refine X_aloadn hK (i := 0) 0 kd42_12.1 rfl rfl ?_
    refine X_getK hK fl_X11_19_12 hs_a0 em0 kd42_12.2.1 ?_
    refine X_getK hK fl_X11_109_6 hs_m0 ebo kd42_12.2.2.1 ?_
    refine X_callV hK [] [] lk_X11_112 (c_size_0 _ _ _ _ _ S g bo nb hs_bo (by omega) enb hp0) hs_bo ⟨by decide, rfl⟩ kd42_12.2.2.2.1 rfl rfl (by simp [Value.category]) (by decide) (by decide) (by decide) (by decide) (fun r2 S4 g3 pr2 qr2 hg3 => ?_)
    obtain ⟨rfl, rfl, z5, rfl, lz5, uz5, k6⟩ := pr2
    refine X_st [.int (iI z5)] rfl ?_
    exact hret _ _ _ _ _ _ _ kd42_12.2.2.2.2.1 ⟨rfl, rfl, z5, rfl, (by omega), (by omega), (by omega)⟩ (Nat.le_refl _) (Nat.le_refl _)
  · refine X_tableIn hK 56 2 (by decide) c1 (by decide) (by decide) kd42_11.2.2.2.2.2.2.2.2.1 rfl (by decide) ?_
    refine X_aloadn hK (i := 0) 0 kd42_12.2.2.2.2.2.1 rfl rfl ?_
    refine X_getK hK fl_X11_19_12 hs_a0 em0 kd42_12.2.2.2.2.2.2.1 ?_
    refine X_getK hK fl_X11_205_6 hs_m0 ebn kd42_12.2.2.2.2.2.2.2.1 ?_
    refine X_callV hK [] [] lk_X11_112 (c_size_100 _ _ _ _ _ S g bn nu hs_bn (by omega) enu hp0) hs_bn ⟨by decide, rfl⟩ kd42_12.2.2.2.2.2.2.2.2.1 rfl rfl (by simp [Value.category]) (by decide) (by decide) (by decide) (by decide) (fun r7 S9 g8 pr7 qr7 hg8 => ?_)
    obtain ⟨rfl, rfl, z10, rfl, lz10, uz10, k11⟩ := pr7
    refine X_st [.int (iI z10)] rfl ?_
    exact hret _ _ _ _ _ _ _ kd42_12.2.2.2.2.2.2.2.2.2.1 ⟨rfl, rfl, z10, rfl, (by omega), (by omega), (by omega)⟩ (Nat.le_refl _) (Nat.le_refl _)
  · refine X_tableIn hK 67 3 (by decide) c1 (by decide) (by decide) kd42_11.2.2.2.2.2.2.2.2.1 rfl (by decide) ?_
    refine X_aloadn hK (i := 0) 0 kd42_12.2.2.2.2.2.2.2.2.2.2.1 rfl rfl ?_
    refine X_getK hK fl_X11_38_12 hs_a0 etx kd42_12.2.2.2.2.2.2.2.2.2.2.2 ?_
    refine X_callV hK [] [] lk_X11_112 (c_size_300 _ _ _ _ _ S g tx tn hs_tx (by omega) etn hp0) hs_tx ⟨by decide, rfl⟩ kd42_13.1 rfl rfl (by simp [Value.category]) (by decide) (by decide) (by decide) (by decide) (fun r12 S14 g13 pr12 qr12 hg13 => ?_)
    obtain ⟨rfl, rfl, z15, rfl, lz15, uz15, k16⟩ := pr12
    refine X_st [.int (iI z15)] rfl ?_
    exact hret _ _ _ _ _ _ _ kd42_13.2.1 ⟨rfl, rfl, z15, rfl, (by omega), (by omega), (by omega)⟩ (Nat.le_refl _) (Nat.le_refl _)
  · refine X_tableIn hK 75 4 (by decide) c1 (by decide) (by decide) kd42_11.2.2.2.2.2.2.2.2.1 rfl (by decide) ?_
    refine X_aloadn hK (i := 0) 0 kd42_13.2.2.1 rfl rfl ?_
    refine X_getK hK fl_X11_31_12 hs_a0 elg kd42_13.2.2.2.1 ?_
    refine X_getK hK fl_X11_278_5 hs_lg enc kd42_13.2.2.2.2.1 ?_
    exact hret _ _ _ _ _ _ _ kd42_13.2.2.2.2.2.1 ⟨rfl, rfl, nc, rfl, (by omega), (by omega), (by omega)⟩ (Nat.le_refl _) (Nat.le_refl _)
  · refine X_tableIn hK 83 5 (by decide) c1 (by decide) (by decide) kd42_11.2.2.2.2.2.2.2.2.1 rfl (by decide) ?_
    refine X_aloadn hK (i := 0) 0 kd42_13.2.2.2.2.2.2.1 rfl rfl ?_
    refine X_getK hK fl_X11_10_12 hs_a0 ew0 kd42_13.2.2.2.2.2.2.2.1 ?_
    refine X_getK hK fl_X11_102_10 hs_w0 en0 kd42_13.2.2.2.2.2.2.2.2.1 ?_
    exact hret _ _ _ _ _ _ _ kd42_13.2.2.2.2.2.2.2.2.2.1 ⟨rfl, rfl, n0, rfl, (by omega), (by omega), (by omega)⟩ (Nat.le_refl _) (Nat.le_refl _)

set_option maxHeartbeats 4000000 in
set_option maxRecDepth 100000 in
theorem m_mcount (l : Launch) (D : va_G) (kA : Nat → ClassId) (b0 : Nat) (t0 : Nat → Nat) (S : xT) (g : xG) (a0 : Nat) (x1 : Int) (td : Int) (nb : Int) (nu : Int) (tn : Int) (nc : Int) (n0 : Int) (hs_a0 : S a0 = some (13, 0)) (hx1 : (-2147483648) ≤ x1 ∧ x1 ≤ 2147483647) (htd : 0 ≤ td ∧ td ≤ 400) (etd : g a0 3 = .int (iI td)) (hnb : 0 ≤ nb ∧ nb ≤ 40) (enb : g a0 16 = .int (iI nb)) (hnu : 0 ≤ nu ∧ nu ≤ 200) (enu : g a0 58 = .int (iI nu)) (htn : 0 ≤ tn ∧ tn ≤ 10) (etn : g a0 39 = .int (iI tn)) (hnc : 0 ≤ nc ∧ nc ≤ 60) (enc : g a0 69 = .int (iI nc)) (hn0 : 0 ≤ n0 ∧ n0 ≤ 420) (en0 : g a0 2 = .int (iI n0)) : xMt l yX12_count cX12_count 2 (some .int) 0 0 0 0 D kA b0 t0 [(13, 0)] [.ref a0, .int (iI x1)] S g (fun (r : Option Value) (S1 : xT) (g1 : xG) => S = S1 ∧ ∃ z : Int, r = some (.int (iI z)) ∧ (-1) ≤ z ∧ z ≤ 420 ∧ (z = if x1 = 0 then td else if x1 = 1 then nb else if x1 = 2 then nu else if x1 = 3 then tn else if x1 = 4 then nc else if x1 = 5 then n0 else -1)) := by
  refine xEnterI (by decide) (by simp [lg_sl, Value.category]) [(0, .ref a0), (1, .int (iI x1))] rfl ?_
  intro K E hK hret _ _ _
  refine X_aloadn hK (i := 0) 0 kd28_50.2.2.2.1 rfl rfl ?_
  refine X_iconst hK kd28_50.2.2.2.2.1 ?_
  refine X_puti hK fl_X12_198_13 hs_a0 (by decide) sl_13_0 (by omega) (by omega) kd28_50.2.2.2.2.2.1 (fun g1 hg1 => ?_)
  refine X_iloadn hK (i := 1) 1 kd28_50.2.2.2.2.2.2.1 rfl rfl ?_
  rcases (show (x1 < 0 ∨ 5 < x1) ∨ x1 = 0 ∨ x1 = 1 ∨ x1 = 2 ∨ x1 = 3 ∨ x1 = 4 ∨ x1 = 5 by omega) with c2 | c2 | c2 | c2 | c2 | c2 | c2
  · refine X_tableOut hK 74 (by omega) c2 kd28_50.2.2.2.2.2.2.2.1 (by decide) ?_
    refine X_iconst hK kd28_52.2.2.1 ?_
    exact hret _ _ _ _ _ _ _ kd28_52.2.2.2.1 ⟨rfl, (-1), rfl, (by omega), (by omega), (by omega)⟩ (Nat.le_refl _) (Nat.le_refl _)
  · refine X_tableIn hK 44 0 (by decide) c2 (by decide) (by decide) kd28_50.2.2.2.2.2.2.2.1 rfl (by decide) ?_
    refine X_aloadn hK (i := 0) 0 kd28_50.2.2.2.2.2.2.2.2.1 rfl rfl ?_
    refine X_getK hK fl_X12_239_13 hs_a0 ((xs_k hg1 (by decide)).trans etd) kd28_50.2.2.2.2.2.2.2.2.2.1 ?_
    exact hret _ _ _ _ _ _ _ kd28_50.2.2.2.2.2.2.2.2.2.2.1 ⟨rfl, td, rfl, (by omega), (by omega), (by omega)⟩ (Nat.le_refl _) (Nat.le_refl _)
  · refine X_tableIn hK 49 1 (by decide) c2 (by decide) (by decide) kd28_50.2.2.2.2.2.2.2.1 rfl (by decide) ?_
    refine X_aloadn hK (i := 0) 0 kd28_50.2.2.2.2.2.2.2.2.2.2.2 rfl rfl ?_
    refine X_getK hK fl_X12_208_13 hs_a0 ((xs_k hg1 (by decide)).trans enb) kd28_51.1 ?_
    exact hret _ _ _ _ _ _ _ kd28_51.2.1 ⟨rfl, nb, rfl, (by omega), (by omega), (by omega)⟩ (Nat.le_refl _) (Nat.le_refl _)
  · refine X_tableIn hK 54 2 (by decide) c2 (by decide) (by decide) kd28_50.2.2.2.2.2.2.2.1 rfl (by decide) ?_
    refine X_aloadn hK (i := 0) 0 kd28_51.2.2.1 rfl rfl ?_
    refine X_getK hK fl_X12_389_13 hs_a0 ((xs_k hg1 (by decide)).trans enu) kd28_51.2.2.2.1 ?_
    exact hret _ _ _ _ _ _ _ kd28_51.2.2.2.2.1 ⟨rfl, nu, rfl, (by omega), (by omega), (by omega)⟩ (Nat.le_refl _) (Nat.le_refl _)
  · refine X_tableIn hK 59 3 (by decide) c2 (by decide) (by decide) kd28_50.2.2.2.2.2.2.2.1 rfl (by decide) ?_
    refine X_aloadn hK (i := 0) 0 kd28_51.2.2.2.2.2.1 rfl rfl ?_
    refine X_getK hK fl_X12_373_13 hs_a0 ((xs_k hg1 (by decide)).trans etn) kd28_51.2.2.2.2.2.2.1 ?_
    exact hret _ _ _ _ _ _ _ kd28_51.2.2.2.2.2.2.2.1 ⟨rfl, tn, rfl, (by omega), (by omega), (by omega)⟩ (Nat.le_refl _) (Nat.le_refl _)
  · refine X_tableIn hK 64 4 (by decide) c2 (by decide) (by decide) kd28_50.2.2.2.2.2.2.2.1 rfl (by decide) ?_
    refine X_aloadn hK (i := 0) 0 kd28_51.2.2.2.2.2.2.2.2.1 rfl rfl ?_
    refine X_getK hK fl_X12_421_13 hs_a0 ((xs_k hg1 (by decide)).trans enc) kd28_51.2.2.2.2.2.2.2.2.2.1 ?_
    exact hret _ _ _ _ _ _ _ kd28_51.2.2.2.2.2.2.2.2.2.2.1 ⟨rfl, nc, rfl, (by omega), (by omega), (by omega)⟩ (Nat.le_refl _) (Nat.le_refl _)
  · refine X_tableIn hK 69 5 (by decide) c2 (by decide) (by decide) kd28_50.2.2.2.2.2.2.2.1 rfl (by decide) ?_
    refine X_aloadn hK (i := 0) 0 kd28_51.2.2.2.2.2.2.2.2.2.2.2 rfl rfl ?_
    refine X_getK hK fl_X12_201_13 hs_a0 ((xs_k hg1 (by decide)).trans en0) kd28_52.1 ?_
    exact hret _ _ _ _ _ _ _ kd28_52.2.1 ⟨rfl, n0, rfl, (by omega), (by omega), (by omega)⟩ (Nat.le_refl _) (Nat.le_refl _)
