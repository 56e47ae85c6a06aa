
set_option maxHeartbeats 4000000 in
set_option maxRecDepth 100000 in
theorem m_backOf (l : Launch) (D : va_G) (kA : Nat → ClassId) (b0 : Nat) (t0 : Nat → Nat) (S : xT) (g : xG) (x0 : Int) (x1 : Int) (hx0 : 0 ≤ x0 ∧ x0 ≤ 1000) (hx1 : 0 ≤ x1 ∧ x1 ≤ 1000) : xMt l yX11_backOf cX11_backOf 2 (some .int) 0 0 0 0 D kA b0 t0 [] [.int (iI x0), .int (iI x1)] S g (fun (r : Option Value) (S1 : xT) (g1 : xG) => S = S1 ∧ g = g1 ∧ ∃ z : Int, r = some (.int (iI z)) ∧ 0 ≤ z ∧ z ≤ 10000 ∧ (z = x0 * x1 / 100)) := by
  refine xEnterI (by decide) (by simp [lg_sl, Value.category]) [(0, .int (iI x0)), (1, .int (iI x1))] rfl ?_
  intro K E hK hret _ _ _
  refine X_iloadn hK (i := 0) 0 kd20_3.1 rfl rfl ?_
  refine X_iloadn hK (i := 1) 1 kd20_3.2.1 rfl rfl ?_
  refine X_imul hK kd20_3.2.2.1 ?_
  have hm1 := xmulB (a := x0) (b := x1) (A := 1000) (B := 1000) (by omega) (by omega) (by omega) (by omega)
  refine X_bipush hK kd20_3.2.2.2.1 (by decide) ?_
  refine X_idiv hK (by omega) (by omega) kd20_3.2.2.2.2.1 (fun z2 ez2 fz2 => ?_)
  have bz2 : 0 ≤ z2 ∧ z2 ≤ 10000 := by omega
  exact hret _ _ _ _ _ _ _ kd20_3.2.2.2.2.2.1 ⟨rfl, rfl, z2, rfl, (by omega), (by omega), (by omega)⟩ (Nat.le_refl _) (Nat.le_refl _)

set_option maxHeartbeats 4000000 in
set_option maxRecDepth 100000 in
theorem m_paidFor (l : Launch) (D : va_G) (kA : Nat → ClassId) (b0 : Nat) (t0 : Nat → Nat) (S : xT) (g : xG) (x0 : Int) (x1 : Int) (hx0 : 0 ≤ x0 ∧ x0 ≤ 10000) (hx1 : 0 ≤ x1 ∧ x1 ≤ 1000) : xMt l yX11_paidFor cX11_paidFor 2 (some .int) 0 0 0 0 D kA b0 t0 [] [.int (iI x0), .int (iI x1)] S g (fun (r : Option Value) (S1 : xT) (g1 : xG) => S = S1 ∧ g = g1 ∧ ∃ z : Int, r = some (.int (iI z)) ∧ 0 ≤ z ∧ z ≤ 100000 ∧ (z = x0 * x1 / 100)) := by
  refine xEnterI (by decide) (by simp [lg_sl, Value.category]) [(0, .int (iI x0)), (1, .int (iI x1))] rfl ?_
  intro K E hK hret _ _ _
  refine X_iloadn hK (i := 0) 0 kd20_8.2.1 rfl rfl ?_
  refine X_iloadn hK (i := 1) 1 kd20_8.2.2.1 rfl rfl ?_
  refine X_imul hK kd20_8.2.2.2.1 ?_
  have hm1 := xmulB (a := x0) (b := x1) (A := 10000) (B := 1000) (by omega) (by omega) (by omega) (by omega)
  refine X_bipush hK kd20_8.2.2.2.2.1 (by decide) ?_
  refine X_idiv hK (by omega) (by omega) kd20_8.2.2.2.2.2.1 (fun z2 ez2 fz2 => ?_)
  have bz2 : 0 ≤ z2 ∧ z2 ≤ 100000 := by omega
  exact hret _ _ _ _ _ _ _ kd20_8.2.2.2.2.2.2.1 ⟨rfl, rfl, z2, rfl, (by omega), (by omega), (by omega)⟩ (Nat.le_refl _) (Nat.le_refl _)

set_option maxHeartbeats 4000000 in
set_option maxRecDepth 100000 in
theorem m_costOf (l : Launch) (D : va_G) (kA : Nat → ClassId) (b0 : Nat) (t0 : Nat → Nat) (S : xT) (g : xG) (x0 : Int) (x1 : Int) (hx0 : 0 ≤ x0 ∧ x0 ≤ 1000) (hx1 : 0 ≤ x1 ∧ x1 ≤ 1000) : xMt l yX11_costOf cX11_costOf 2 (some .int) 0 0 0 0 D kA b0 t0 [] [.int (iI x0), .int (iI x1)] S g (fun (r : Option Value) (S1 : xT) (g1 : xG) => S = S1 ∧ g = g1 ∧ ∃ z : Int, r = some (.int (iI z)) ∧ 0 ≤ z ∧ z ≤ 10000 ∧ (z = (x0 * x1 + 99) / 100)) := by
  refine xEnterI (by decide) (by simp [lg_sl, Value.category]) [(0, .int (iI x0)), (1, .int (iI x1))] rfl ?_
  intro K E hK hret _ _ _
  refine X_iloadn hK (i := 0) 0 kd20_3.2.2.2.2.2.2.1 rfl rfl ?_
  refine X_iloadn hK (i := 1) 1 kd20_3.2.2.2.2.2.2.2.1 rfl rfl ?_
  refine X_imul hK kd20_3.2.2.2.2.2.2.2.2.1 ?_
  have hm1 := xmulB (a := x0) (b := x1) (A := 1000) (B := 1000) (by omega) (by omega) (by omega) (by omega)
  refine X_bipush hK kd20_3.2.2.2.2.2.2.2.2.2.1 (by decide) ?_
  refine X_iadd hK kd20_3.2.2.2.2.2.2.2.2.2.2.1 ?_
  refine X_iconst hK kd20_3.2.2.2.2.2.2.2.2.2.2.2 ?_
  refine X_isub hK kd20_4.1 ?_
  refine X_bipush hK kd20_4.2.1 (by decide) ?_
  refine X_idiv hK (by omega) (by omega) kd20_4.2.2.1 (fun z2 ez2 fz2 => ?_)
  have bz2 : 0 ≤ z2 ∧ z2 ≤ 10000 := by omega
  exact hret _ _ _ _ _ _ _ kd20_4.2.2.2.1 ⟨rfl, rfl, z2, rfl, (by omega), (by omega), (by omega)⟩ (Nat.le_refl _) (Nat.le_refl _)

set_option maxHeartbeats 4000000 in
set_option maxRecDepth 100000 in
theorem m_cost (l : Launch) (D : va_G) (kA : Nat → ClassId) (b0 : Nat) (t0 : Nat → Nat) (S : xT) (g : xG) (x0 : Int) (x1 : Int) (hx0 : 0 ≤ x0 ∧ x0 ≤ 1000) (hx1 : 0 ≤ x1 ∧ x1 ≤ 1000) : xMt l yX12_cost cX12_cost 2 (some .int) 0 0 0 0 D kA b0 t0 [] [.int (iI x0), .int (iI x1)] S g (fun (r : Option Value) (S1 : xT) (g1 : xG) => S = S1 ∧ g = g1 ∧ ∃ z : Int, r = some (.int (iI z)) ∧ 0 ≤ z ∧ z ≤ 10000 ∧ (z = (x0 * x1 + 99) / 100)) := by
  refine xEnterI (by decide) (by simp [lg_sl, Value.category]) [(0, .int (iI x0)), (1, .int (iI x1))] rfl ?_
  intro K E hK hret _ _ _
  refine X_iloadn hK (i := 0) 0 kd20_10.2.2.2.1 rfl rfl ?_
  refine X_iloadn hK (i := 1) 1 kd20_10.2.2.2.2.1 rfl rfl ?_
  refine X_imul hK kd20_10.2.2.2.2.2.1 ?_
  have hm1 := xmulB (a := x0) (b := x1) (A := 1000) (B := 1000) (by omega) (by omega) (by omega) (by omega)
  refine X_bipush hK kd20_10.2.2.2.2.2.2.1 (by decide) ?_
  refine X_iadd hK kd20_10.2.2.2.2.2.2.2.1 ?_
  refine X_bipush hK kd20_10.2.2.2.2.2.2.2.2.1 (by decide) ?_
  refine X_idiv hK (by omega) (by omega) kd20_10.2.2.2.2.2.2.2.2.2.1 (fun z2 ez2 fz2 => ?_)
  have bz2 : 0 ≤ z2 ∧ z2 ≤ 10000 := by omega
  exact hret _ _ _ _ _ _ _ kd20_10.2.2.2.2.2.2.2.2.2.2.1 ⟨rfl, rfl, z2, rfl, (by omega), (by omega), (by omega)⟩ (Nat.le_refl _) (Nat.le_refl _)

set_option maxHeartbeats 4000000 in
set_option maxRecDepth 100000 in
theorem m_askedOn (l : Launch) (D : va_G) (kA : Nat → ClassId) (b0 : Nat) (t0 : Nat → Nat) (S : xT) (g : xG) (a0 : Nat) (x1 : Int) (x2 : Int) (x3 : Int) (sk : Nat) (hg : Nat) (wt : Nat) (ld : Nat) (wg : Nat) (WN : Int → Int → Int) (HD : Int → Int → Int) (hs_a0 : S a0 = some (4, 0)) (hx1 : 0 ≤ x1 ∧ x1 ≤ 399) (hx2 : 0 ≤ x2 ∧ x2 ≤ 9) (hx3 : 0 ≤ x3 ∧ x3 ≤ 3) (esk : g a0 0 = .ref sk) (hs_sk : S sk = some (10700, 400)) (ehg : g a0 1 = .ref hg) (hs_hg : S hg = some (10904, 4)) (ewt : g a0 2 = .ref wt) (hs_wt : S wt = some (11000, 4)) (eld : g a0 3 = .ref ld) (hs_ld : S ld = some (11100, 6)) (ewg : g a0 4 = .ref wg) (hs_wg : S wg = some (11304, 10)) (hp0 : xWW S g wg WN) (hp1 : xHW S g hg HD) : xMt l yX3_askedOn cX3_askedOn 4 (some .int) 1 0 0 25 D kA b0 t0 [] [.ref a0, .int (iI x1), .int (iI x2), .int (iI x3)] S g (fun (r : Option Value) (S1 : xT) (g1 : xG) => S = S1 ∧ g = g1 ∧ ∃ z : Int, r = some (.int (iI z)) ∧ 0 ≤ z ∧ z ≤ 3600 ∧ (z = xas (WN x2 x3) (xv g wt (xv g sk x1)) (xv g ld (HD x3 x1)))) := by
  refine xEnterI (by decide) (by simp [lg_sl, Value.category]) [(0, .ref a0), (1, .int (iI x1)), (2, .int (iI x2)), (3, .int (iI x3))] rfl ?_
  intro K E hK hret _ _ _
  refine X_aloadn hK (i := 0) 0 kd22_1.2.2.2.2.2.2.2.2.2.2.2 rfl rfl ?_
  refine X_iloadn hK (i := 2) 2 kd22_2.1 rfl rfl ?_
  refine X_iloadn hK (i := 3) 3 kd22_2.2.1 rfl rfl ?_
  refine X_aloadn hK (i := 0) 0 kd22_2.2.2.1 rfl rfl ?_
  refine X_getK hK fl_X3_9_4 hs_a0 esk kd22_2.2.2.2.1 ?_
  refine X_iloadn hK (i := 1) 1 kd22_2.2.2.2.2.1 rfl rfl ?_
  refine X_iald hK hs_sk (by decide) sl_10700 (by omega) (by omega) kd22_2.2.2.2.2.2.1 (fun z1 ez1 lz1 uz1 => ?_)
  have hw2 : xv g sk x1 = z1 := xv_e (j := x1) ez1 (by omega)
  refine X_aloadn hK (i := 0) 0 kd22_2.2.2.2.2.2.2.1 rfl rfl ?_
  refine X_getK hK fl_X3_17_4 hs_a0 ehg kd22_2.2.2.2.2.2.2.2.1 ?_
  refine X_iloadn hK (i := 3) 3 kd22_2.2.2.2.2.2.2.2.2.1 rfl rfl ?_
  refine X_aald hK 10800 400 hs_hg (by decide) sl_10904 (by omega) (by omega) kd22_2.2.2.2.2.2.2.2.2.2.1 (fun b3 eb3 hs_b3 => ?_)
  refine X_iloadn hK (i := 1) 1 kd22_2.2.2.2.2.2.2.2.2.2.2.1 rfl rfl ?_
  refine X_iald hK hs_b3 (by decide) sl_10800 (by omega) (by omega) kd22_2.2.2.2.2.2.2.2.2.2.2.2 (fun z4 ez4 lz4 uz4 => ?_)
  have hw5 : xv g b3 x1 = z4 := xv_e (j := x1) ez4 (by omega)
  refine X_callV hK [.int (iI x2), .int (iI x3), .int (iI z1), .int (iI z4)] [] lk_X3_44 (c_X3_askedFor _ _ _ _ _ S g a0 x2 x3 z1 z4 wg wt ld hs_a0 (by omega) (by omega) (by omega) (by omega) ewg hs_wg ewt hs_wt eld hs_ld) hs_a0 ⟨by decide, rfl⟩ kd22_3.1 rfl rfl (by simp [Value.category]) (by decide) (by decide) (by decide) (by decide) (fun r6 S8 g7 pr6 qr6 hg7 => ?_)
  obtain ⟨rfl, rfl, z9, rfl, lz9, uz9, k10⟩ := pr6
  refine X_st [.int (iI z9)] rfl ?_
  exact hret _ _ _ _ _ _ _ kd22_3.2.1 ⟨rfl, rfl, z9, rfl, (by omega), (by omega), (by obtain ⟨w9, i1, i2⟩ := k10; obtain ⟨r9, u1, u2, u3⟩ := hp0.2 x2 (by omega) (by omega); obtain ⟨r8, v1, v2, v3⟩ := hp1.2 x3 (by omega) (by omega); have d1 : w9 = r9 := Value.ref.inj (i1.symm.trans u1); have d2 : b3 = r8 := Value.ref.inj (eb3.symm.trans v1); rw [i2, d1, u3 x3 (by omega) (by omega), ← v3 x1 (by omega) (by omega), ← d2, hw5, hw2])⟩ (Nat.le_refl _) (Nat.le_refl _)

set_option maxHeartbeats 4000000 in
set_option maxRecDepth 100000 in
theorem m_cryB0 (l : Launch) (D : va_G) (kA : Nat → ClassId) (b0 : Nat) (t0 : Nat → Nat) (S : xT) (g : xG) (a0 : Nat) (a1 : Nat) (a2 : Nat) (x3 : Int) (x4 : Int) (ct : Nat) (ow : Nat) (sk : Nat) (fa : Nat) (yb : Nat) (nu : Int) (ag : Int) (sc : Int) (fi : Int) (bd : Int) (cn : Int) (pp : Int) (co : Int) (cp : Int) (ho : Int) (dy : Int) (s5 : Int) (s6 : Int) (s7 : Int) (ln : Int) (wk : Nat) (wn : Nat) (wf : Nat) (wb : Nat) (ws : Nat) (T : List xL3) (hs_a0 : S a0 = some (6, 0)) (hs_a1 : S a1 = some (2, 0)) (hs_a2 : S a2 = some (11, 0)) (hx3 : 0 ≤ x3 ∧ x3 ≤ 3600) (hx4 : 0 ≤ x4 ∧ x4 ≤ 0) (ect : g a0 0 = .ref ct) (hs_ct : S ct = some (4, 0)) (eow : g ct 5 = .ref ow) (hs_ow : S ow = some (11400, 10)) (esk : g ct 0 = .ref sk) (hs_sk : S sk = some (10700, 400)) (efa : g a0 4 = .ref fa) (hs_fa : S fa = some (12000, 12)) (eyb : g a1 0 = .ref yb) (hs_yb : S yb = some (1, 0)) (hnu : (-2147483648) ≤ nu ∧ nu ≤ 2147483647) (enu : g yb 0 = .int (iI nu)) (hag : (-2147483648) ≤ ag ∧ ag ≤ 2147483647) (eag : g yb 1 = .int (iI ag)) (hsc : 0 ≤ sc ∧ sc ≤ 1) (esc : g yb 2 = .int (iI sc)) (hfi : (-2147483648) ≤ fi ∧ fi ≤ 2147483647) (efi : g yb 3 = .int (iI fi)) (hbd : (-2147483648) ≤ bd ∧ bd ≤ 2147483647) (ebd : g yb 4 = .int (iI bd)) (hcn : (-2147483648) ≤ cn ∧ cn ≤ 2147483647) (ecn : g yb 5 = .int (iI cn)) (hpp : 0 ≤ pp ∧ pp ≤ 3) (epp : g a1 1 = .int (iI pp)) (hco : 0 ≤ co ∧ co ≤ 9) (eco : g a1 2 = .int (iI co)) (hcp : 1 ≤ cp ∧ cp ≤ 1000) (ecp : g a1 3 = .int (iI cp)) (hho : (-2147483648) ≤ ho ∧ ho ≤ 2147483647) (eho : g a1 4 = .int (iI ho)) (hdy : 0 ≤ dy ∧ dy ≤ 399) (edy : g a1 5 = .int (iI dy)) (hs5 : (-2147483648) ≤ s5 ∧ s5 ≤ 2147483647) (es5 : g a0 5 = .int (iI s5)) (hs6 : (-2147483648) ≤ s6 ∧ s6 ≤ 2147483647) (es6 : g a0 6 = .int (iI s6)) (hs7 : (-2147483648) ≤ s7 ∧ s7 ≤ 2147483647) (es7 : g a0 7 = .int (iI s7)) (hln : 0 ≤ ln ∧ ln ≤ 16) (eln : g a2 1 = .int (iI ln)) (ewk : g a2 3 = .ref wk) (hs_wk : S wk = some (13600, 16)) (ewn : g a2 4 = .ref wn) (hs_wn : S wn = some (13700, 16)) (ewf : g a2 5 = .ref wf) (hs_wf : S wf = some (13800, 16)) (ewb : g a2 6 = .ref wb) (hs_wb : S wb = some (13900, 16)) (ews : g a2 7 = .ref ws) (hs_ws : S ws = some (14000, 100)) (hp0 : xTc9 (xv g wk) (xv g wn) (xv g wf) (xv g wb) (xv g ws) ln T) : xMt l yX5_cryBundle cX5_cryBundle 10 (some .int) 4 0 0 94 D kA b0 t0 [(12000, 0), (6, 5), (6, 7), (6, 6)] [.ref a0, .ref a1, .ref a2, .int (iI x3), .int (iI x4)] S g (fun (r : Option Value) (S1 : xT) (g1 : xG) => S = S1 ∧ ∃ z : Int, r = some (.int (iI z)) ∧ 0 ≤ z ∧ z ≤ 1000 ∧ (z = if xts9 T (xfct sc ag fi bd (if xv g ow co = nu then 1 else 0) ho dy pp co cp (xv g sk dy)) 4 = 1 then xmn9 x3 cp else 0) ∧ (0 ≤ ((cp - z) * xts9 T (xfct sc ag fi bd (if xv g ow co = nu then 1 else 0) ho dy pp co cp (xv g sk dy)) 2 / 100) ∧ ((cp - z) * xts9 T (xfct sc ag fi bd (if xv g ow co = nu then 1 else 0) ho dy pp co cp (xv g sk dy)) 2 / 100) ≤ 10000) ∧ (g1 a0 5 = .int (iI (xwp (s5 + z)))) ∧ (g1 a0 6 = .int (iI (xwp (s6 + ((z * xts9 T (xfct sc ag fi bd (if xv g ow co = nu then 1 else 0) ho dy pp co cp (xv g sk dy)) 1 + ((cp - z) * xts9 T (xfct sc ag fi bd (if xv g ow co = nu then 1 else 0) ho dy pp co cp (xv g sk dy)) 2 / 100) * xts9 T (xfct sc ag fi bd (if xv g ow co = nu then 1 else 0) ho dy pp co cp (xv g sk dy)) 0 / 100) - ((cp * xts9 T (xfct sc ag fi bd (if xv g ow co = nu then 1 else 0) ho dy pp co cp (xv g sk dy)) 0 + 99) / 100)))))) ∧ (g1 a0 7 = .int (iI (xwp (s7 + (cp - z - ((cp - z) * xts9 T (xfct sc ag fi bd (if xv g ow co = nu then 1 else 0) ho dy pp co cp (xv g sk dy)) 2 / 100))))))) := by
  refine xEnterI (by decide) (by simp [lg_sl, Value.category]) [(0, .ref a0), (1, .ref a1), (2, .ref a2), (3, .int (iI x3)), (4, .int (iI x4))] rfl ?_
  intro K E hK hret _ _ _
  refine X_aloadn hK (i := 0) 0 kd32_11.2.2.2.2.2.2.2.2.1 rfl rfl ?_
  refine X_aloadn hK (i := 1) 1 kd32_11.2.2.2.2.2.2.2.2.2.1 rfl rfl ?_
  refine X_callV hK [.ref a1] [] lk_X5_92 (m_learn _ _ _ _ _ S g a0 a1 ct ow sk fa yb nu ag sc fi bd pp co cp ho dy hs_a0 hs_a1 ect hs_ct eow hs_ow esk hs_sk efa hs_fa eyb hs_yb (by omega) enu (by omega) eag (by omega) esc (by omega) efi (by omega) ebd (by omega) epp (by omega) eco (by omega) ecp (by omega) eho (by omega) edy) hs_a0 ⟨by decide, rfl⟩ kd32_11.2.2.2.2.2.2.2.2.2.2.1 rfl rfl (by simp [Value.category]) (by decide) (by decide) (by decide) (by decide) (fun r1 S3 g2 pr1 qr1 hg2 => ?_)
  obtain ⟨rfl, rfl, k4⟩ := pr1
  refine X_st [] rfl ?_
  refine X_aloadn hK (i := 2) 2 kd32_11.2.2.2.2.2.2.2.2.2.2.2 rfl rfl ?_
  refine X_iconst hK kd32_12.1 ?_
  refine X_aloadn hK (i := 0) 0 kd32_12.2.1 rfl rfl ?_
  refine X_getK hK fl_X5_31_6 hs_a0 ((hg2 a0 6 0 4 hs_a0 (by decide)).trans efa) kd32_12.2.2.1 ?_
  refine X_callV hK [.int (iI 0), .ref fa] [] lk_X5_96 (m_tells _ _ _ _ _ S g2 a2 0 fa ln wk wn wf wb ws (xfct sc ag fi bd (if xv g ow co = nu then 1 else 0) ho dy pp co cp (xv g sk dy)) T hs_a2 (by omega) hs_fa (by omega) ((hg2 a2 11 0 1 hs_a2 (by decide)).trans eln) ((hg2 a2 11 0 3 hs_a2 (by decide)).trans ewk) hs_wk ((hg2 a2 11 0 4 hs_a2 (by decide)).trans ewn) hs_wn ((hg2 a2 11 0 5 hs_a2 (by decide)).trans ewf) hs_wf ((hg2 a2 11 0 6 hs_a2 (by decide)).trans ewb) hs_wb ((hg2 a2 11 0 7 hs_a2 (by decide)).trans ews) hs_ws k4 (by rw [(xv_m hg2 hs_wk (by decide) (by decide)), (xv_m hg2 hs_wn (by decide) (by decide)), (xv_m hg2 hs_wf (by decide) (by decide)), (xv_m hg2 hs_wb (by decide) (by decide)), (xv_m hg2 hs_ws (by decide) (by decide))]; exact hp0)) hs_a2 ⟨by decide, rfl⟩ kd32_12.2.2.2.1 rfl rfl (by simp [Value.category]) (by decide) (by decide) (by decide) (by decide) (fun r5 S7 g6 pr5 qr5 hg6 => ?_)
  obtain ⟨rfl, rfl, z8, rfl, lz8, uz8, k9⟩ := pr5
  refine X_st [.int (iI z8)] rfl ?_
  refine X_istore hK (i := 5) [(5, .int (iI z8)), (0, .ref a0), (1, .ref a1), (2, .ref a2), (3, .int (iI x3)), (4, .int (iI x4))] kd32_12.2.2.2.2.1 (by decide) rfl ?_
  refine X_aloadn hK (i := 2) 3 kd32_12.2.2.2.2.2.1 rfl rfl ?_
  refine X_iconst hK kd32_12.2.2.2.2.2.2.1 ?_
  refine X_aloadn hK (i := 0) 1 kd32_12.2.2.2.2.2.2.2.1 rfl rfl ?_
  refine X_getK hK fl_X5_31_6 hs_a0 ((hg2 a0 6 0 4 hs_a0 (by decide)).trans efa) kd32_12.2.2.2.2.2.2.2.2.1 ?_
  refine X_callV hK [.int (iI 4), .ref fa] [] lk_X5_96 (m_tells _ _ _ _ _ S g2 a2 4 fa ln wk wn wf wb ws (xfct sc ag fi bd (if xv g ow co = nu then 1 else 0) ho dy pp co cp (xv g sk dy)) T hs_a2 (by omega) hs_fa (by omega) ((hg2 a2 11 0 1 hs_a2 (by decide)).trans eln) ((hg2 a2 11 0 3 hs_a2 (by decide)).trans ewk) hs_wk ((hg2 a2 11 0 4 hs_a2 (by decide)).trans ewn) hs_wn ((hg2 a2 11 0 5 hs_a2 (by decide)).trans ewf) hs_wf ((hg2 a2 11 0 6 hs_a2 (by decide)).trans ewb) hs_wb ((hg2 a2 11 0 7 hs_a2 (by decide)).trans ews) hs_ws k4 (by rw [(xv_m hg2 hs_wk (by decide) (by decide)), (xv_m hg2 hs_wn (by decide) (by decide)), (xv_m hg2 hs_wf (by decide) (by decide)), (xv_m hg2 hs_wb (by decide) (by decide)), (xv_m hg2 hs_ws (by decide) (by decide))]; exact hp0)) hs_a2 ⟨by decide, rfl⟩ kd32_12.2.2.2.2.2.2.2.2.2.1 rfl rfl (by simp [Value.category]) (by decide) (by decide) (by decide) (by decide) (fun r10 S12 g11 pr10 qr10 hg11 => ?_)
  obtain ⟨rfl, rfl, z13, rfl, lz13, uz13, k14⟩ := pr10
  refine X_st [.int (iI z13)] rfl ?_
  refine X_iconst hK kd32_12.2.2.2.2.2.2.2.2.2.2.1 ?_
  refine X_icmp_ne hK 40 (by omega) (by omega) kd32_12.2.2.2.2.2.2.2.2.2.2.2 (by decide) (fun c15 => ?_) (fun c15 => ?_)
  · refine X_iconst hK kd32_13.2.2.2.2.2.1 ?_
    refine X_istore hK (i := 6) [(6, .int (iI 0)), (5, .int (iI z8)), (0, .ref a0), (1, .ref a1), (2, .ref a2), (3, .int (iI x3)), (4, .int (iI x4))] kd32_13.2.2.2.2.2.2.1 (by decide) rfl ?_
    refine X_aloadn hK (i := 1) 3 kd32_13.2.2.2.2.2.2.2.1 rfl rfl ?_
    refine X_getK hK fl_X5_83_2 hs_a1 ((hg2 a1 2 0 3 hs_a1 (by decide)).trans ecp) kd32_13.2.2.2.2.2.2.2.2.1 ?_
    refine X_iload hK (i := 6) 0 kd32_13.2.2.2.2.2.2.2.2.2.1 rfl ?_
    refine X_isub hK kd32_13.2.2.2.2.2.2.2.2.2.2.1 ?_
    refine X_istore hK (i := 7) [(7, .int (iI (cp - 0))), (6, .int (iI 0)), (5, .int (iI z8)), (0, .ref a0), (1, .ref a1), (2, .ref a2), (3, .int (iI x3)), (4, .int (iI x4))] kd32_13.2.2.2.2.2.2.2.2.2.2.2 (by decide) rfl ?_
    refine X_iload hK (i := 7) 0 kd32_14.1 rfl ?_
    refine X_aloadn hK (i := 2) 5 kd32_14.2.1 rfl rfl ?_
    refine X_iconst hK kd32_14.2.2.1 ?_
    refine X_aloadn hK (i := 0) 3 kd32_14.2.2.2.1 rfl rfl ?_
    refine X_getK hK fl_X5_31_6 hs_a0 ((hg2 a0 6 0 4 hs_a0 (by decide)).trans efa) kd32_14.2.2.2.2.1 ?_
    refine X_callV hK [.int (iI 2), .ref fa] [.int (iI (cp - 0))] lk_X5_96 (m_tells _ _ _ _ _ S g2 a2 2 fa ln wk wn wf wb ws (xfct sc ag fi bd (if xv g ow co = nu then 1 else 0) ho dy pp co cp (xv g sk dy)) T hs_a2 (by omega) hs_fa (by omega) ((hg2 a2 11 0 1 hs_a2 (by decide)).trans eln) ((hg2 a2 11 0 3 hs_a2 (by decide)).trans ewk) hs_wk ((hg2 a2 11 0 4 hs_a2 (by decide)).trans ewn) hs_wn ((hg2 a2 11 0 5 hs_a2 (by decide)).trans ewf) hs_wf ((hg2 a2 11 0 6 hs_a2 (by decide)).trans ewb) hs_wb ((hg2 a2 11 0 7 hs_a2 (by decide)).trans ews) hs_ws k4 (by rw [(xv_m hg2 hs_wk (by decide) (by decide)), (xv_m hg2 hs_wn (by decide) (by decide)), (xv_m hg2 hs_wf (by decide) (by decide)), (xv_m hg2 hs_wb (by decide) (by decide)), (xv_m hg2 hs_ws (by decide) (by decide))]; exact hp0)) hs_a2 ⟨by decide, rfl⟩ kd32_14.2.2.2.2.2.1 rfl rfl (by simp [Value.category]) (by decide) (by decide) (by decide) (by decide) (fun r16 S18 g17 pr16 qr16 hg17 => ?_)
    obtain ⟨rfl, rfl, z19, rfl, lz19, uz19, k20⟩ := pr16
    refine X_st [.int (iI z19), .int (iI (cp - 0))] rfl ?_
    refine X_callN hK [.int (iI (cp - 0)), .int (iI z19)] [] lk_X5_147 (m_backOf _ _ _ _ _ S g2 (cp - 0) z19 (by omega) (by omega)) kd32_14.2.2.2.2.2.2.1 rfl rfl (by simp [Value.category]) (by decide) (by decide) (by decide) (by decide) (fun r21 S23 g22 pr21 qr21 hg22 => ?_)
    obtain ⟨rfl, rfl, z24, rfl, lz24, uz24, k25⟩ := pr21
    refine X_st [.int (iI z24)] rfl ?_
    refine X_istore hK (i := 8) [(8, .int (iI z24)), (7, .int (iI (cp - 0))), (6, .int (iI 0)), (5, .int (iI z8)), (0, .ref a0), (1, .ref a1), (2, .ref a2), (3, .int (iI x3)), (4, .int (iI x4))] kd32_14.2.2.2.2.2.2.2.1 (by decide) rfl ?_
    refine X_iload hK (i := 6) 2 kd32_14.2.2.2.2.2.2.2.2.1 rfl ?_
    refine X_aloadn hK (i := 2) 6 kd32_14.2.2.2.2.2.2.2.2.2.1 rfl rfl ?_
    refine X_iconst hK kd32_14.2.2.2.2.2.2.2.2.2.2.1 ?_
    refine X_aloadn hK (i := 0) 4 kd32_14.2.2.2.2.2.2.2.2.2.2.2 rfl rfl ?_
    refine X_getK hK fl_X5_31_6 hs_a0 ((hg2 a0 6 0 4 hs_a0 (by decide)).trans efa) kd32_15.1 ?_
    refine X_callV hK [.int (iI 1), .ref fa] [.int (iI 0)] lk_X5_96 (m_tells _ _ _ _ _ S g2 a2 1 fa ln wk wn wf wb ws (xfct sc ag fi bd (if xv g ow co = nu then 1 else 0) ho dy pp co cp (xv g sk dy)) T hs_a2 (by omega) hs_fa (by omega) ((hg2 a2 11 0 1 hs_a2 (by decide)).trans eln) ((hg2 a2 11 0 3 hs_a2 (by decide)).trans ewk) hs_wk ((hg2 a2 11 0 4 hs_a2 (by decide)).trans ewn) hs_wn ((hg2 a2 11 0 5 hs_a2 (by decide)).trans ewf) hs_wf ((hg2 a2 11 0 6 hs_a2 (by decide)).trans ewb) hs_wb ((hg2 a2 11 0 7 hs_a2 (by decide)).trans ews) hs_ws k4 (by rw [(xv_m hg2 hs_wk (by decide) (by decide)), (xv_m hg2 hs_wn (by decide) (by decide)), (xv_m hg2 hs_wf (by decide) (by decide)), (xv_m hg2 hs_wb (by decide) (by decide)), (xv_m hg2 hs_ws (by decide) (by decide))]; exact hp0)) hs_a2 ⟨by decide, rfl⟩ kd32_15.2.1 rfl rfl (by simp [Value.category]) (by decide) (by decide) (by decide) (by decide) (fun r26 S28 g27 pr26 qr26 hg27 => ?_)
    obtain ⟨rfl, rfl, z29, rfl, lz29, uz29, k30⟩ := pr26
    refine X_st [.int (iI z29), .int (iI 0)] rfl ?_
    refine X_imul hK kd32_15.2.2.1 ?_
    refine X_iload hK (i := 8) 0 kd32_15.2.2.2.1 rfl ?_
    refine X_iload hK (i := 5) 3 kd32_15.2.2.2.2.1 rfl ?_
    refine X_callN hK [.int (iI z24), .int (iI z8)] [.int (iI (0 * z29))] lk_X5_150 (m_paidFor _ _ _ _ _ S g2 z24 z8 (by omega) (by omega)) kd32_15.2.2.2.2.2.1 rfl rfl (by simp [Value.category]) (by decide) (by decide) (by decide) (by decide) (fun r31 S33 g32 pr31 qr31 hg32 => ?_)
    obtain ⟨rfl, rfl, z34, rfl, lz34, uz34, k35⟩ := pr31
    refine X_st [.int (iI z34), .int (iI (0 * z29))] rfl ?_
    refine X_iadd hK kd32_15.2.2.2.2.2.2.1 ?_
    refine X_istore hK (i := 9) [(9, .int (iI ((0 * z29) + z34))), (8, .int (iI z24)), (7, .int (iI (cp - 0))), (6, .int (iI 0)), (5, .int (iI z8)), (0, .ref a0), (1, .ref a1), (2, .ref a2), (3, .int (iI x3)), (4, .int (iI x4))] kd32_15.2.2.2.2.2.2.2.1 (by decide) rfl ?_
    refine X_aloadn hK (i := 0) 5 kd32_15.2.2.2.2.2.2.2.2.1 rfl rfl ?_
    refine X_dup hK kd32_15.2.2.2.2.2.2.2.2.2.1 rfl ?_
    refine X_getK hK fl_X5_35_6 hs_a0 ((hg2 a0 6 0 5 hs_a0 (by decide)).trans es5) kd32_15.2.2.2.2.2.2.2.2.2.2.1 ?_
    refine X_iload hK (i := 6) 3 kd32_15.2.2.2.2.2.2.2.2.2.2.2 rfl ?_
    refine X_iadd hK kd32_16.1 ?_
    refine X_puti hK fl_X5_35_6 hs_a0 (by decide) sl_6_5 (by omega) (by omega) kd32_16.2.1 (fun g36 hg36 => ?_)
    refine X_aloadn hK (i := 0) 5 kd32_16.2.2.1 rfl rfl ?_
    refine X_dup hK kd32_16.2.2.2.1 rfl ?_
    refine X_getK hK fl_X5_42_6 hs_a0 ((xs_k hg36 (by decide)).trans ((hg2 a0 6 0 7 hs_a0 (by decide)).trans es7)) kd32_16.2.2.2.2.1 ?_
    refine X_iload hK (i := 7) 2 kd32_16.2.2.2.2.2.1 rfl ?_
    refine X_iload hK (i := 8) 1 kd32_16.2.2.2.2.2.2.1 rfl ?_
    refine X_isub hK kd32_16.2.2.2.2.2.2.2.1 ?_
    refine X_iadd hK kd32_16.2.2.2.2.2.2.2.2.1 ?_
    refine X_norm (fun z37 ez37 lz37 uz37 => ?_)
    refine X_puti hK fl_X5_42_6 hs_a0 (by decide) sl_6_7 (by omega) (by omega) kd32_16.2.2.2.2.2.2.2.2.2.1 (fun g38 hg38 => ?_)
    refine X_aloadn hK (i := 0) 5 kd32_16.2.2.2.2.2.2.2.2.2.2.1 rfl rfl ?_
    refine X_dup hK kd32_16.2.2.2.2.2.2.2.2.2.2.2 rfl ?_
    refine X_getK hK fl_X5_39_6 hs_a0 ((xs_k hg38 (by decide)).trans ((xs_k hg36 (by decide)).trans ((hg2 a0 6 0 6 hs_a0 (by decide)).trans es6))) kd32_17.1 ?_
    refine X_iload hK (i := 9) 0 kd32_17.2.1 rfl ?_
    refine X_aloadn hK (i := 1) 6 kd32_17.2.2.1 rfl rfl ?_
    refine X_getK hK fl_X5_83_2 hs_a1 ((xs_k hg38 (by decide)).trans ((xs_k hg36 (by decide)).trans ((hg2 a1 2 0 3 hs_a1 (by decide)).trans ecp))) kd32_17.2.2.2.1 ?_
    refine X_iload hK (i := 5) 4 kd32_17.2.2.2.2.1 rfl ?_
    refine X_callN hK [.int (iI cp), .int (iI z8)] [.int (iI ((0 * z29) + z34)), .int (iI s6), .ref a0] lk_X5_102 (m_costOf _ _ _ _ _ S g38 cp z8 (by omega) (by omega)) kd32_17.2.2.2.2.2.1 rfl rfl (by simp [Value.category]) (by decide) (by decide) (by decide) (by decide) (fun r39 S41 g40 pr39 qr39 hg40 => ?_)
    obtain ⟨rfl, rfl, z42, rfl, lz42, uz42, k43⟩ := pr39
    refine X_st [.int (iI z42), .int (iI ((0 * z29) + z34)), .int (iI s6), .ref a0] rfl ?_
    refine X_isub hK kd32_17.2.2.2.2.2.2.1 ?_
    refine X_iadd hK kd32_17.2.2.2.2.2.2.2.1 ?_
    refine X_norm (fun z44 ez44 lz44 uz44 => ?_)
    refine X_puti hK fl_X5_39_6 hs_a0 (by decide) sl_6_6 (by omega) (by omega) kd32_17.2.2.2.2.2.2.2.2.1 (fun g45 hg45 => ?_)
    refine X_iload hK (i := 4) 9 kd32_17.2.2.2.2.2.2.2.2.2.1 rfl ?_
    refine X_if_eq hK 176 (by omega) kd32_17.2.2.2.2.2.2.2.2.2.2.1 (by decide) (fun c46 => ?_) (fun c46 => False.elim (by omega))
    refine X_iload hK (i := 6) 3 kd32_19.2.2.2.2.2.1 rfl ?_
    exact hret _ _ _ _ _ _ _ kd32_19.2.2.2.2.2.2.1 ⟨rfl, 0, rfl, (by omega), (by omega), (by rw [← k14, if_neg (by omega)]), (by rw [← k20, ← k25]; omega), (((xs_k hg45 (by decide)).trans ((xs_k hg38 (by decide)).trans (xs_s hg36))).trans (by rw [xwp.e])), ((xs_s hg45).trans (by rw [xwp.e, ez44, k35, k43, k25, k30, k20, k9])), (((xs_k hg45 (by decide)).trans (xs_s hg38)).trans (by rw [xwp.e, ez37, k25, k20]))⟩ (Nat.le_refl _) (Nat.le_refl _)
  · refine X_iloadn hK (i := 3) 4 kd32_13.1 rfl rfl ?_
    refine X_aloadn hK (i := 1) 2 kd32_13.2.1 rfl rfl ?_
    refine X_getK hK fl_X5_83_2 hs_a1 ((hg2 a1 2 0 3 hs_a1 (by decide)).trans ecp) kd32_13.2.2.1 ?_
    refine X_mmin hK mm_X5_142 ⟨by decide, by simp [Value.category]⟩ (by decide) (by omega) (by omega) kd32_13.2.2.2.1 (fun z47 ez47 fz47 => ?_)
    have bz47 : 0 ≤ z47 ∧ z47 ≤ 1000 := by omega
    refine X_goto hK 41 kd32_13.2.2.2.2.1 (by decide) ?_
    refine X_istore hK (i := 6) [(6, .int (iI z47)), (5, .int (iI z8)), (0, .ref a0), (1, .ref a1), (2, .ref a2), (3, .int (iI x3)), (4, .int (iI x4))] kd32_13.2.2.2.2.2.2.1 (by decide) rfl ?_
    refine X_aloadn hK (i := 1) 3 kd32_13.2.2.2.2.2.2.2.1 rfl rfl ?_
    refine X_getK hK fl_X5_83_2 hs_a1 ((hg2 a1 2 0 3 hs_a1 (by decide)).trans ecp) kd32_13.2.2.2.2.2.2.2.2.1 ?_
    refine X_iload hK (i := 6) 0 kd32_13.2.2.2.2.2.2.2.2.2.1 rfl ?_
    refine X_isub hK kd32_13.2.2.2.2.2.2.2.2.2.2.1 ?_
    refine X_istore hK (i := 7) [(7, .int (iI (cp - z47))), (6, .int (iI z47)), (5, .int (iI z8)), (0, .ref a0), (1, .ref a1), (2, .ref a2), (3, .int (iI x3)), (4, .int (iI x4))] kd32_13.2.2.2.2.2.2.2.2.2.2.2 (by decide) rfl ?_
    refine X_iload hK (i := 7) 0 kd32_14.1 rfl ?_
    refine X_aloadn hK (i := 2) 5 kd32_14.2.1 rfl rfl ?_
    refine X_iconst hK kd32_14.2.2.1 ?_
    refine X_aloadn hK (i := 0) 3 kd32_14.2.2.2.1 rfl rfl ?_
    refine X_getK hK fl_X5_31_6 hs_a0 ((hg2 a0 6 0 4 hs_a0 (by decide)).trans efa) kd32_14.2.2.2.2.1 ?_
    refine X_callV hK [.int (iI 2), .ref fa] [.int (iI (cp - z47))] lk_X5_96 (m_tells _ _ _ _ _ S g2 a2 2 fa ln wk wn wf wb ws (xfct sc ag fi bd (if xv g ow co = nu then 1 else 0) ho dy pp co cp (xv g sk dy)) T hs_a2 (by omega) hs_fa (by omega) ((hg2 a2 11 0 1 hs_a2 (by decide)).trans eln) ((hg2 a2 11 0 3 hs_a2 (by decide)).trans ewk) hs_wk ((hg2 a2 11 0 4 hs_a2 (by decide)).trans ewn) hs_wn ((hg2 a2 11 0 5 hs_a2 (by decide)).trans ewf) hs_wf ((hg2 a2 11 0 6 hs_a2 (by decide)).trans ewb) hs_wb ((hg2 a2 11 0 7 hs_a2 (by decide)).trans ews) hs_ws k4 (by rw [(xv_m hg2 hs_wk (by decide) (by decide)), (xv_m hg2 hs_wn (by decide) (by decide)), (xv_m hg2 hs_wf (by decide) (by decide)), (xv_m hg2 hs_wb (by decide) (by decide)), (xv_m hg2 hs_ws (by decide) (by decide))]; exact hp0)) hs_a2 ⟨by decide, rfl⟩ kd32_14.2.2.2.2.2.1 rfl rfl (by simp [Value.category]) (by decide) (by decide) (by decide) (by decide) (fun r48 S50 g49 pr48 qr48 hg49 => ?_)
    obtain ⟨rfl, rfl, z51, rfl, lz51, uz51, k52⟩ := pr48
    refine X_st [.int (iI z51), .int (iI (cp - z47))] rfl ?_
    refine X_callN hK [.int (iI (cp - z47)), .int (iI z51)] [] lk_X5_147 (m_backOf _ _ _ _ _ S g2 (cp - z47) z51 (by omega) (by omega)) kd32_14.2.2.2.2.2.2.1 rfl rfl (by simp [Value.category]) (by decide) (by decide) (by decide) (by decide) (fun r53 S55 g54 pr53 qr53 hg54 => ?_)
    obtain ⟨rfl, rfl, z56, rfl, lz56, uz56, k57⟩ := pr53
    refine X_st [.int (iI z56)] rfl ?_
    refine X_istore hK (i := 8) [(8, .int (iI z56)), (7, .int (iI (cp - z47))), (6, .int (iI z47)), (5, .int (iI z8)), (0, .ref a0), (1, .ref a1), (2, .ref a2), (3, .int (iI x3)), (4, .int (iI x4))] kd32_14.2.2.2.2.2.2.2.1 (by decide) rfl ?_
    refine X_iload hK (i := 6) 2 kd32_14.2.2.2.2.2.2.2.2.1 rfl ?_
    refine X_aloadn hK (i := 2) 6 kd32_14.2.2.2.2.2.2.2.2.2.1 rfl rfl ?_
    refine X_iconst hK kd32_14.2.2.2.2.2.2.2.2.2.2.1 ?_
    refine X_aloadn hK (i := 0) 4 kd32_14.2.2.2.2.2.2.2.2.2.2.2 rfl rfl ?_
    refine X_getK hK fl_X5_31_6 hs_a0 ((hg2 a0 6 0 4 hs_a0 (by decide)).trans efa) kd32_15.1 ?_
    refine X_callV hK [.int (iI 1), .ref fa] [.int (iI z47)] lk_X5_96 (m_tells _ _ _ _ _ S g2 a2 1 fa ln wk wn wf wb ws (xfct sc ag fi bd (if xv g ow co = nu then 1 else 0) ho dy pp co cp (xv g sk dy)) T hs_a2 (by omega) hs_fa (by omega) ((hg2 a2 11 0 1 hs_a2 (by decide)).trans eln) ((hg2 a2 11 0 3 hs_a2 (by decide)).trans ewk) hs_wk ((hg2 a2 11 0 4 hs_a2 (by decide)).trans ewn) hs_wn ((hg2 a2 11 0 5 hs_a2 (by decide)).trans ewf) hs_wf ((hg2 a2 11 0 6 hs_a2 (by decide)).trans ewb) hs_wb ((hg2 a2 11 0 7 hs_a2 (by decide)).trans ews) hs_ws k4 (by rw [(xv_m hg2 hs_wk (by decide) (by decide)), (xv_m hg2 hs_wn (by decide) (by decide)), (xv_m hg2 hs_wf (by decide) (by decide)), (xv_m hg2 hs_wb (by decide) (by decide)), (xv_m hg2 hs_ws (by decide) (by decide))]; exact hp0)) hs_a2 ⟨by decide, rfl⟩ kd32_15.2.1 rfl rfl (by simp [Value.category]) (by decide) (by decide) (by decide) (by decide) (fun r58 S60 g59 pr58 qr58 hg59 => ?_)
    obtain ⟨rfl, rfl, z61, rfl, lz61, uz61, k62⟩ := pr58
    refine X_st [.int (iI z61), .int (iI z47)] rfl ?_
    refine X_imul hK kd32_15.2.2.1 ?_
    have hm63 := xmulB (a := z47) (b := z61) (A := 1000) (B := 1000) (by omega) (by omega) (by omega) (by omega)
    refine X_iload hK (i := 8) 0 kd32_15.2.2.2.1 rfl ?_
    refine X_iload hK (i := 5) 3 kd32_15.2.2.2.2.1 rfl ?_
    refine X_callN hK [.int (iI z56), .int (iI z8)] [.int (iI (z47 * z61))] lk_X5_150 (m_paidFor _ _ _ _ _ S g2 z56 z8 (by omega) (by omega)) kd32_15.2.2.2.2.2.1 rfl rfl (by simp [Value.category]) (by decide) (by decide) (by decide) (by decide) (fun r64 S66 g65 pr64 qr64 hg65 => ?_)
    obtain ⟨rfl, rfl, z67, rfl, lz67, uz67, k68⟩ := pr64
    refine X_st [.int (iI z67), .int (iI (z47 * z61))] rfl ?_
    refine X_iadd hK kd32_15.2.2.2.2.2.2.1 ?_
    refine X_istore hK (i := 9) [(9, .int (iI ((z47 * z61) + z67))), (8, .int (iI z56)), (7, .int (iI (cp - z47))), (6, .int (iI z47)), (5, .int (iI z8)), (0, .ref a0), (1, .ref a1), (2, .ref a2), (3, .int (iI x3)), (4, .int (iI x4))] kd32_15.2.2.2.2.2.2.2.1 (by decide) rfl ?_
    refine X_aloadn hK (i := 0) 5 kd32_15.2.2.2.2.2.2.2.2.1 rfl rfl ?_
    refine X_dup hK kd32_15.2.2.2.2.2.2.2.2.2.1 rfl ?_
    refine X_getK hK fl_X5_35_6 hs_a0 ((hg2 a0 6 0 5 hs_a0 (by decide)).trans es5) kd32_15.2.2.2.2.2.2.2.2.2.2.1 ?_
    refine X_iload hK (i := 6) 3 kd32_15.2.2.2.2.2.2.2.2.2.2.2 rfl ?_
    refine X_iadd hK kd32_16.1 ?_
    refine X_norm (fun z69 ez69 lz69 uz69 => ?_)
    refine X_puti hK fl_X5_35_6 hs_a0 (by decide) sl_6_5 (by omega) (by omega) kd32_16.2.1 (fun g70 hg70 => ?_)
    refine X_aloadn hK (i := 0) 5 kd32_16.2.2.1 rfl rfl ?_
    refine X_dup hK kd32_16.2.2.2.1 rfl ?_
    refine X_getK hK fl_X5_42_6 hs_a0 ((xs_k hg70 (by decide)).trans ((hg2 a0 6 0 7 hs_a0 (by decide)).trans es7)) kd32_16.2.2.2.2.1 ?_
    refine X_iload hK (i := 7) 2 kd32_16.2.2.2.2.2.1 rfl ?_
    refine X_iload hK (i := 8) 1 kd32_16.2.2.2.2.2.2.1 rfl ?_
    refine X_isub hK kd32_16.2.2.2.2.2.2.2.1 ?_
    refine X_iadd hK kd32_16.2.2.2.2.2.2.2.2.1 ?_
    refine X_norm (fun z71 ez71 lz71 uz71 => ?_)
    refine X_puti hK fl_X5_42_6 hs_a0 (by decide) sl_6_7 (by omega) (by omega) kd32_16.2.2.2.2.2.2.2.2.2.1 (fun g72 hg72 => ?_)
    refine X_aloadn hK (i := 0) 5 kd32_16.2.2.2.2.2.2.2.2.2.2.1 rfl rfl ?_
    refine X_dup hK kd32_16.2.2.2.2.2.2.2.2.2.2.2 rfl ?_
    refine X_getK hK fl_X5_39_6 hs_a0 ((xs_k hg72 (by decide)).trans ((xs_k hg70 (by decide)).trans ((hg2 a0 6 0 6 hs_a0 (by decide)).trans es6))) kd32_17.1 ?_
    refine X_iload hK (i := 9) 0 kd32_17.2.1 rfl ?_
    refine X_aloadn hK (i := 1) 6 kd32_17.2.2.1 rfl rfl ?_
    refine X_getK hK fl_X5_83_2 hs_a1 ((xs_k hg72 (by decide)).trans ((xs_k hg70 (by decide)).trans ((hg2 a1 2 0 3 hs_a1 (by decide)).trans ecp))) kd32_17.2.2.2.1 ?_
    refine X_iload hK (i := 5) 4 kd32_17.2.2.2.2.1 rfl ?_
    refine X_callN hK [.int (iI cp), .int (iI z8)] [.int (iI ((z47 * z61) + z67)), .int (iI s6), .ref a0] lk_X5_102 (m_costOf _ _ _ _ _ S g72 cp z8 (by omega) (by omega)) kd32_17.2.2.2.2.2.1 rfl rfl (by simp [Value.category]) (by decide) (by decide) (by decide) (by decide) (fun r73 S75 g74 pr73 qr73 hg74 => ?_)
    obtain ⟨rfl, rfl, z76, rfl, lz76, uz76, k77⟩ := pr73
    refine X_st [.int (iI z76), .int (iI ((z47 * z61) + z67)), .int (iI s6), .ref a0] rfl ?_
    refine X_isub hK kd32_17.2.2.2.2.2.2.1 ?_
    refine X_iadd hK kd32_17.2.2.2.2.2.2.2.1 ?_
    refine X_norm (fun z78 ez78 lz78 uz78 => ?_)
    refine X_puti hK fl_X5_39_6 hs_a0 (by decide) sl_6_6 (by omega) (by omega) kd32_17.2.2.2.2.2.2.2.2.1 (fun g79 hg79 => ?_)
    refine X_iload hK (i := 4) 9 kd32_17.2.2.2.2.2.2.2.2.2.1 rfl ?_
    refine X_if_eq hK 176 (by omega) kd32_17.2.2.2.2.2.2.2.2.2.2.1 (by decide) (fun c80 => ?_) (fun c80 => False.elim (by omega))
    refine X_iload hK (i := 6) 3 kd32_19.2.2.2.2.2.1 rfl ?_
    exact hret _ _ _ _ _ _ _ kd32_19.2.2.2.2.2.2.1 ⟨rfl, z47, rfl, (by omega), (by omega), (by rw [← k14, if_pos (by omega)]; unfold xmn9; split <;> omega), (by rw [← k52, ← k57]; omega), (((xs_k hg79 (by decide)).trans ((xs_k hg72 (by decide)).trans (xs_s hg70))).trans (by rw [xwp.e, ez69])), ((xs_s hg79).trans (by rw [xwp.e, ez78, k68, k77, k57, k62, k52, k9])), (((xs_k hg79 (by decide)).trans (xs_s hg72)).trans (by rw [xwp.e, ez71, k57, k52]))⟩ (Nat.le_refl _) (Nat.le_refl _)

set_option maxHeartbeats 4000000 in
set_option maxRecDepth 100000 in
theorem m_cryB1 (l : Launch) (D : va_G) (kA : Nat → ClassId) (b0 : Nat) (t0 : Nat → Nat) (S : xT) (g : xG) (a0 : Nat) (a1 : Nat) (a2 : Nat) (x3 : Int) (x4 : Int) (ct : Nat) (ow : Nat) (sk : Nat) (fa : Nat) (yb : Nat) (nu : Int) (ag : Int) (sc : Int) (fi : Int) (bd : Int) (cn : Int) (pp : Int) (co : Int) (cp : Int) (ho : Int) (dy : Int) (s5 : Int) (s6 : Int) (s7 : Int) (ln : Int) (wk : Nat) (wn : Nat) (wf : Nat) (wb : Nat) (ws : Nat) (T : List xL3) (hs_a0 : S a0 = some (6, 0)) (hs_a1 : S a1 = some (2, 0)) (hs_a2 : S a2 = some (11, 0)) (hx3 : 0 ≤ x3 ∧ x3 ≤ 3600) (hx4 : 1 ≤ x4 ∧ x4 ≤ 1) (ect : g a0 0 = .ref ct) (hs_ct : S ct = some (4, 0)) (eow : g ct 5 = .ref ow) (hs_ow : S ow = some (11400, 10)) (esk : g ct 0 = .ref sk) (hs_sk : S sk = some (10700, 400)) (efa : g a0 4 = .ref fa) (hs_fa : S fa = some (12000, 12)) (eyb : g a1 0 = .ref yb) (hs_yb : S yb = some (1, 0)) (hnu : (-2147483648) ≤ nu ∧ nu ≤ 2147483647) (enu : g yb 0 = .int (iI nu)) (hag : (-2147483648) ≤ ag ∧ ag ≤ 2147483647) (eag : g yb 1 = .int (iI ag)) (hsc : 0 ≤ sc ∧ sc ≤ 1) (esc : g yb 2 = .int (iI sc)) (hfi : (-2147483648) ≤ fi ∧ fi ≤ 2147483647) (efi : g yb 3 = .int (iI fi)) (hbd : (-2147483648) ≤ bd ∧ bd ≤ 2147483647) (ebd : g yb 4 = .int (iI bd)) (hcn : (-2147483648) ≤ cn ∧ cn ≤ 2147483647) (ecn : g yb 5 = .int (iI cn)) (hpp : 0 ≤ pp ∧ pp ≤ 3) (epp : g a1 1 = .int (iI pp)) (hco : 0 ≤ co ∧ co ≤ 9) (eco : g a1 2 = .int (iI co)) (hcp : 1 ≤ cp ∧ cp ≤ 1000) (ecp : g a1 3 = .int (iI cp)) (hho : (-2147483648) ≤ ho ∧ ho ≤ 2147483647) (eho : g a1 4 = .int (iI ho)) (hdy : 0 ≤ dy ∧ dy ≤ 399) (edy : g a1 5 = .int (iI dy)) (hs5 : (-2147483648) ≤ s5 ∧ s5 ≤ 2147483647) (es5 : g a0 5 = .int (iI s5)) (hs6 : (-2147483648) ≤ s6 ∧ s6 ≤ 2147483647) (es6 : g a0 6 = .int (iI s6)) (hs7 : (-2147483648) ≤ s7 ∧ s7 ≤ 2147483647) (es7 : g a0 7 = .int (iI s7)) (hln : 0 ≤ ln ∧ ln ≤ 16) (eln : g a2 1 = .int (iI ln)) (ewk : g a2 3 = .ref wk) (hs_wk : S wk = some (13600, 16)) (ewn : g a2 4 = .ref wn) (hs_wn : S wn = some (13700, 16)) (ewf : g a2 5 = .ref wf) (hs_wf : S wf = some (13800, 16)) (ewb : g a2 6 = .ref wb) (hs_wb : S wb = some (13900, 16)) (ews : g a2 7 = .ref ws) (hs_ws : S ws = some (14000, 100)) (hp0 : xTc9 (xv g wk) (xv g wn) (xv g wf) (xv g wb) (xv g ws) ln T) : xMt l yX5_cryBundle cX5_cryBundle 10 (some .int) 4 0 0 94 D kA b0 t0 [(12000, 0), (6, 5), (6, 7), (6, 6), (2, 8), (2, 9), (2, 10), (1, 5)] [.ref a0, .ref a1, .ref a2, .int (iI x3), .int (iI x4)] S g (fun (r : Option Value) (S1 : xT) (g1 : xG) => S = S1 ∧ ∃ z : Int, r = some (.int (iI z)) ∧ 0 ≤ z ∧ z ≤ 1000 ∧ (z = if xts9 T (xfct sc ag fi bd (if xv g ow co = nu then 1 else 0) ho dy pp co cp (xv g sk dy)) 4 = 1 then xmn9 x3 cp else 0) ∧ (0 ≤ ((cp - z) * xts9 T (xfct sc ag fi bd (if xv g ow co = nu then 1 else 0) ho dy pp co cp (xv g sk dy)) 2 / 100) ∧ ((cp - z) * xts9 T (xfct sc ag fi bd (if xv g ow co = nu then 1 else 0) ho dy pp co cp (xv g sk dy)) 2 / 100) ≤ 10000) ∧ (g1 a0 5 = .int (iI (xwp (s5 + z)))) ∧ (g1 a0 6 = .int (iI (xwp (s6 + ((z * xts9 T (xfct sc ag fi bd (if xv g ow co = nu then 1 else 0) ho dy pp co cp (xv g sk dy)) 1 + ((cp - z) * xts9 T (xfct sc ag fi bd (if xv g ow co = nu then 1 else 0) ho dy pp co cp (xv g sk dy)) 2 / 100) * xts9 T (xfct sc ag fi bd (if xv g ow co = nu then 1 else 0) ho dy pp co cp (xv g sk dy)) 0 / 100) - ((cp * xts9 T (xfct sc ag fi bd (if xv g ow co = nu then 1 else 0) ho dy pp co cp (xv g sk dy)) 0 + 99) / 100)))))) ∧ (g1 a0 7 = .int (iI (xwp (s7 + (cp - z - ((cp - z) * xts9 T (xfct sc ag fi bd (if xv g ow co = nu then 1 else 0) ho dy pp co cp (xv g sk dy)) 2 / 100)))))) ∧ (g1 a1 8 = .int (iI z)) ∧ (g1 a1 9 = .int (iI ((cp - z) * xts9 T (xfct sc ag fi bd (if xv g ow co = nu then 1 else 0) ho dy pp co cp (xv g sk dy)) 2 / 100))) ∧ (g1 a1 10 = .int (iI (cp - z - ((cp - z) * xts9 T (xfct sc ag fi bd (if xv g ow co = nu then 1 else 0) ho dy pp co cp (xv g sk dy)) 2 / 100)))) ∧ (g1 yb 5 = .int (iI (xwp (cn + (z * xts9 T (xfct sc ag fi bd (if xv g ow co = nu then 1 else 0) ho dy pp co cp (xv g sk dy)) 1 + ((cp - z) * xts9 T (xfct sc ag fi bd (if xv g ow co = nu then 1 else 0) ho dy pp co cp (xv g sk dy)) 2 / 100) * xts9 T (xfct sc ag fi bd (if xv g ow co = nu then 1 else 0) ho dy pp co cp (xv g sk dy)) 0 / 100))))) ∧ (xFr 2 S g g1 a1) ∧ (xFr 1 S g g1 yb)) := by
  refine xEnterI (by decide) (by simp [lg_sl, Value.category]) [(0, .ref a0), (1, .ref a1), (2, .ref a2), (3, .int (iI x3)), (4, .int (iI x4))] rfl ?_
  intro K E hK hret _ _ _
  refine X_aloadn hK (i := 0) 0 kd32_11.2.2.2.2.2.2.2.2.1 rfl rfl ?_
  refine X_aloadn hK (i := 1) 1 kd32_11.2.2.2.2.2.2.2.2.2.1 rfl rfl ?_
  refine X_callV hK [.ref a1] [] lk_X5_92 (m_learn _ _ _ _ _ S g a0 a1 ct ow sk fa yb nu ag sc fi bd pp co cp ho dy hs_a0 hs_a1 ect hs_ct eow hs_ow esk hs_sk efa hs_fa eyb hs_yb (by omega) enu (by omega) eag (by omega) esc (by omega) efi (by omega) ebd (by omega) epp (by omega) eco (by omega) ecp (by omega) eho (by omega) edy) hs_a0 ⟨by decide, rfl⟩ kd32_11.2.2.2.2.2.2.2.2.2.2.1 rfl rfl (by simp [Value.category]) (by decide) (by decide) (by decide) (by decide) (fun r1 S3 g2 pr1 qr1 hg2 => ?_)
  obtain ⟨rfl, rfl, k4⟩ := pr1
  refine X_st [] rfl ?_
  refine X_aloadn hK (i := 2) 2 kd32_11.2.2.2.2.2.2.2.2.2.2.2 rfl rfl ?_
  refine X_iconst hK kd32_12.1 ?_
  refine X_aloadn hK (i := 0) 0 kd32_12.2.1 rfl rfl ?_
  refine X_getK hK fl_X5_31_6 hs_a0 ((hg2 a0 6 0 4 hs_a0 (by decide)).trans efa) kd32_12.2.2.1 ?_
  refine X_callV hK [.int (iI 0), .ref fa] [] lk_X5_96 (m_tells _ _ _ _ _ S g2 a2 0 fa ln wk wn wf wb ws (xfct sc ag fi bd (if xv g ow co = nu then 1 else 0) ho dy pp co cp (xv g sk dy)) T hs_a2 (by omega) hs_fa (by omega) ((hg2 a2 11 0 1 hs_a2 (by decide)).trans eln) ((hg2 a2 11 0 3 hs_a2 (by decide)).trans ewk) hs_wk ((hg2 a2 11 0 4 hs_a2 (by decide)).trans ewn) hs_wn ((hg2 a2 11 0 5 hs_a2 (by decide)).trans ewf) hs_wf ((hg2 a2 11 0 6 hs_a2 (by decide)).trans ewb) hs_wb ((hg2 a2 11 0 7 hs_a2 (by decide)).trans ews) hs_ws k4 (by rw [(xv_m hg2 hs_wk (by decide) (by decide)), (xv_m hg2 hs_wn (by decide) (by decide)), (xv_m hg2 hs_wf (by decide) (by decide)), (xv_m hg2 hs_wb (by decide) (by decide)), (xv_m hg2 hs_ws (by decide) (by decide))]; exact hp0)) hs_a2 ⟨by decide, rfl⟩ kd32_12.2.2.2.1 rfl rfl (by simp [Value.category]) (by decide) (by decide) (by decide) (by decide) (fun r5 S7 g6 pr5 qr5 hg6 => ?_)
  obtain ⟨rfl, rfl, z8, rfl, lz8, uz8, k9⟩ := pr5
  refine X_st [.int (iI z8)] rfl ?_
  refine X_istore hK (i := 5) [(5, .int (iI z8)), (0, .ref a0), (1, .ref a1), (2, .ref a2), (3, .int (iI x3)), (4, .int (iI x4))] kd32_12.2.2.2.2.1 (by decide) rfl ?_
  refine X_aloadn hK (i := 2) 3 kd32_12.2.2.2.2.2.1 rfl rfl ?_
  refine X_iconst hK kd32_12.2.2.2.2.2.2.1 ?_
  refine X_aloadn hK (i := 0) 1 kd32_12.2.2.2.2.2.2.2.1 rfl rfl ?_
  refine X_getK hK fl_X5_31_6 hs_a0 ((hg2 a0 6 0 4 hs_a0 (by decide)).trans efa) kd32_12.2.2.2.2.2.2.2.2.1 ?_
  refine X_callV hK [.int (iI 4), .ref fa] [] lk_X5_96 (m_tells _ _ _ _ _ S g2 a2 4 fa ln wk wn wf wb ws (xfct sc ag fi bd (if xv g ow co = nu then 1 else 0) ho dy pp co cp (xv g sk dy)) T hs_a2 (by omega) hs_fa (by omega) ((hg2 a2 11 0 1 hs_a2 (by decide)).trans eln) ((hg2 a2 11 0 3 hs_a2 (by decide)).trans ewk) hs_wk ((hg2 a2 11 0 4 hs_a2 (by decide)).trans ewn) hs_wn ((hg2 a2 11 0 5 hs_a2 (by decide)).trans ewf) hs_wf ((hg2 a2 11 0 6 hs_a2 (by decide)).trans ewb) hs_wb ((hg2 a2 11 0 7 hs_a2 (by decide)).trans ews) hs_ws k4 (by rw [(xv_m hg2 hs_wk (by decide) (by decide)), (xv_m hg2 hs_wn (by decide) (by decide)), (xv_m hg2 hs_wf (by decide) (by decide)), (xv_m hg2 hs_wb (by decide) (by decide)), (xv_m hg2 hs_ws (by decide) (by decide))]; exact hp0)) hs_a2 ⟨by decide, rfl⟩ kd32_12.2.2.2.2.2.2.2.2.2.1 rfl rfl (by simp [Value.category]) (by decide) (by decide) (by decide) (by decide) (fun r10 S12 g11 pr10 qr10 hg11 => ?_)
  obtain ⟨rfl, rfl, z13, rfl, lz13, uz13, k14⟩ := pr10
  refine X_st [.int (iI z13)] rfl ?_
  refine X_iconst hK kd32_12.2.2.2.2.2.2.2.2.2.2.1 ?_
  refine X_icmp_ne hK 40 (by omega) (by omega) kd32_12.2.2.2.2.2.2.2.2.2.2.2 (by decide) (fun c15 => ?_) (fun c15 => ?_)
  · refine X_iconst hK kd32_13.2.2.2.2.2.1 ?_
    refine X_istore hK (i := 6) [(6, .int (iI 0)), (5, .int (iI z8)), (0, .ref a0), (1, .ref a1), (2, .ref a2), (3, .int (iI x3)), (4, .int (iI x4))] kd32_13.2.2.2.2.2.2.1 (by decide) rfl ?_
    refine X_aloadn hK (i := 1) 3 kd32_13.2.2.2.2.2.2.2.1 rfl rfl ?_
    refine X_getK hK fl_X5_83_2 hs_a1 ((hg2 a1 2 0 3 hs_a1 (by decide)).trans ecp) kd32_13.2.2.2.2.2.2.2.2.1 ?_
    refine X_iload hK (i := 6) 0 kd32_13.2.2.2.2.2.2.2.2.2.1 rfl ?_
    refine X_isub hK kd32_13.2.2.2.2.2.2.2.2.2.2.1 ?_
    refine X_istore hK (i := 7) [(7, .int (iI (cp - 0))), (6, .int (iI 0)), (5, .int (iI z8)), (0, .ref a0), (1, .ref a1), (2, .ref a2), (3, .int (iI x3)), (4, .int (iI x4))] kd32_13.2.2.2.2.2.2.2.2.2.2.2 (by decide) rfl ?_
    refine X_iload hK (i := 7) 0 kd32_14.1 rfl ?_
    refine X_aloadn hK (i := 2) 5 kd32_14.2.1 rfl rfl ?_
    refine X_iconst hK kd32_14.2.2.1 ?_
    refine X_aloadn hK (i := 0) 3 kd32_14.2.2.2.1 rfl rfl ?_
    refine X_getK hK fl_X5_31_6 hs_a0 ((hg2 a0 6 0 4 hs_a0 (by decide)).trans efa) kd32_14.2.2.2.2.1 ?_
    refine X_callV hK [.int (iI 2), .ref fa] [.int (iI (cp - 0))] lk_X5_96 (m_tells _ _ _ _ _ S g2 a2 2 fa ln wk wn wf wb ws (xfct sc ag fi bd (if xv g ow co = nu then 1 else 0) ho dy pp co cp (xv g sk dy)) T hs_a2 (by omega) hs_fa (by omega) ((hg2 a2 11 0 1 hs_a2 (by decide)).trans eln) ((hg2 a2 11 0 3 hs_a2 (by decide)).trans ewk) hs_wk ((hg2 a2 11 0 4 hs_a2 (by decide)).trans ewn) hs_wn ((hg2 a2 11 0 5 hs_a2 (by decide)).trans ewf) hs_wf ((hg2 a2 11 0 6 hs_a2 (by decide)).trans ewb) hs_wb ((hg2 a2 11 0 7 hs_a2 (by decide)).trans ews) hs_ws k4 (by rw [(xv_m hg2 hs_wk (by decide) (by decide)), (xv_m hg2 hs_wn (by decide) (by decide)), (xv_m hg2 hs_wf (by decide) (by decide)), (xv_m hg2 hs_wb (by decide) (by decide)), (xv_m hg2 hs_ws (by decide) (by decide))]; exact hp0)) hs_a2 ⟨by decide, rfl⟩ kd32_14.2.2.2.2.2.1 rfl rfl (by simp [Value.category]) (by decide) (by decide) (by decide) (by decide) (fun r16 S18 g17 pr16 qr16 hg17 => ?_)
    obtain ⟨rfl, rfl, z19, rfl, lz19, uz19, k20⟩ := pr16
    refine X_st [.int (iI z19), .int (iI (cp - 0))] rfl ?_
    refine X_callN hK [.int (iI (cp - 0)), .int (iI z19)] [] lk_X5_147 (m_backOf _ _ _ _ _ S g2 (cp - 0) z19 (by omega) (by omega)) kd32_14.2.2.2.2.2.2.1 rfl rfl (by simp [Value.category]) (by decide) (by decide) (by decide) (by decide) (fun r21 S23 g22 pr21 qr21 hg22 => ?_)
    obtain ⟨rfl, rfl, z24, rfl, lz24, uz24, k25⟩ := pr21
    refine X_st [.int (iI z24)] rfl ?_
    refine X_istore hK (i := 8) [(8, .int (iI z24)), (7, .int (iI (cp - 0))), (6, .int (iI 0)), (5, .int (iI z8)), (0, .ref a0), (1, .ref a1), (2, .ref a2), (3, .int (iI x3)), (4, .int (iI x4))] kd32_14.2.2.2.2.2.2.2.1 (by decide) rfl ?_
    refine X_iload hK (i := 6) 2 kd32_14.2.2.2.2.2.2.2.2.1 rfl ?_
    refine X_aloadn hK (i := 2) 6 kd32_14.2.2.2.2.2.2.2.2.2.1 rfl rfl ?_
    refine X_iconst hK kd32_14.2.2.2.2.2.2.2.2.2.2.1 ?_
    refine X_aloadn hK (i := 0) 4 kd32_14.2.2.2.2.2.2.2.2.2.2.2 rfl rfl ?_
    refine X_getK hK fl_X5_31_6 hs_a0 ((hg2 a0 6 0 4 hs_a0 (by decide)).trans efa) kd32_15.1 ?_
    refine X_callV hK [.int (iI 1), .ref fa] [.int (iI 0)] lk_X5_96 (m_tells _ _ _ _ _ S g2 a2 1 fa ln wk wn wf wb ws (xfct sc ag fi bd (if xv g ow co = nu then 1 else 0) ho dy pp co cp (xv g sk dy)) T hs_a2 (by omega) hs_fa (by omega) ((hg2 a2 11 0 1 hs_a2 (by decide)).trans eln) ((hg2 a2 11 0 3 hs_a2 (by decide)).trans ewk) hs_wk ((hg2 a2 11 0 4 hs_a2 (by decide)).trans ewn) hs_wn ((hg2 a2 11 0 5 hs_a2 (by decide)).trans ewf) hs_wf ((hg2 a2 11 0 6 hs_a2 (by decide)).trans ewb) hs_wb ((hg2 a2 11 0 7 hs_a2 (by decide)).trans ews) hs_ws k4 (by rw [(xv_m hg2 hs_wk (by decide) (by decide)), (xv_m hg2 hs_wn (by decide) (by decide)), (xv_m hg2 hs_wf (by decide) (by decide)), (xv_m hg2 hs_wb (by decide) (by decide)), (xv_m hg2 hs_ws (by decide) (by decide))]; exact hp0)) hs_a2 ⟨by decide, rfl⟩ kd32_15.2.1 rfl rfl (by simp [Value.category]) (by decide) (by decide) (by decide) (by decide) (fun r26 S28 g27 pr26 qr26 hg27 => ?_)
    obtain ⟨rfl, rfl, z29, rfl, lz29, uz29, k30⟩ := pr26
    refine X_st [.int (iI z29), .int (iI 0)] rfl ?_
    refine X_imul hK kd32_15.2.2.1 ?_
    refine X_iload hK (i := 8) 0 kd32_15.2.2.2.1 rfl ?_
    refine X_iload hK (i := 5) 3 kd32_15.2.2.2.2.1 rfl ?_
    refine X_callN hK [.int (iI z24), .int (iI z8)] [.int (iI (0 * z29))] lk_X5_150 (m_paidFor _ _ _ _ _ S g2 z24 z8 (by omega) (by omega)) kd32_15.2.2.2.2.2.1 rfl rfl (by simp [Value.category]) (by decide) (by decide) (by decide) (by decide) (fun r31 S33 g32 pr31 qr31 hg32 => ?_)
    obtain ⟨rfl, rfl, z34, rfl, lz34, uz34, k35⟩ := pr31
    refine X_st [.int (iI z34), .int (iI (0 * z29))] rfl ?_
    refine X_iadd hK kd32_15.2.2.2.2.2.2.1 ?_
    refine X_istore hK (i := 9) [(9, .int (iI ((0 * z29) + z34))), (8, .int (iI z24)), (7, .int (iI (cp - 0))), (6, .int (iI 0)), (5, .int (iI z8)), (0, .ref a0), (1, .ref a1), (2, .ref a2), (3, .int (iI x3)), (4, .int (iI x4))] kd32_15.2.2.2.2.2.2.2.1 (by decide) rfl ?_
    refine X_aloadn hK (i := 0) 5 kd32_15.2.2.2.2.2.2.2.2.1 rfl rfl ?_
    refine X_dup hK kd32_15.2.2.2.2.2.2.2.2.2.1 rfl ?_
    refine X_getK hK fl_X5_35_6 hs_a0 ((hg2 a0 6 0 5 hs_a0 (by decide)).trans es5) kd32_15.2.2.2.2.2.2.2.2.2.2.1 ?_
    refine X_iload hK (i := 6) 3 kd32_15.2.2.2.2.2.2.2.2.2.2.2 rfl ?_
    refine X_iadd hK kd32_16.1 ?_
    refine X_puti hK fl_X5_35_6 hs_a0 (by decide) sl_6_5 (by omega) (by omega) kd32_16.2.1 (fun g36 hg36 => ?_)
    refine X_aloadn hK (i := 0) 5 kd32_16.2.2.1 rfl rfl ?_
    refine X_dup hK kd32_16.2.2.2.1 rfl ?_
    refine X_getK hK fl_X5_42_6 hs_a0 ((xs_k hg36 (by decide)).trans ((hg2 a0 6 0 7 hs_a0 (by decide)).trans es7)) kd32_16.2.2.2.2.1 ?_
    refine X_iload hK (i := 7) 2 kd32_16.2.2.2.2.2.1 rfl ?_
    refine X_iload hK (i := 8) 1 kd32_16.2.2.2.2.2.2.1 rfl ?_
    refine X_isub hK kd32_16.2.2.2.2.2.2.2.1 ?_
    refine X_iadd hK kd32_16.2.2.2.2.2.2.2.2.1 ?_
    refine X_norm (fun z37 ez37 lz37 uz37 => ?_)
    refine X_puti hK fl_X5_42_6 hs_a0 (by decide) sl_6_7 (by omega) (by omega) kd32_16.2.2.2.2.2.2.2.2.2.1 (fun g38 hg38 => ?_)
    refine X_aloadn hK (i := 0) 5 kd32_16.2.2.2.2.2.2.2.2.2.2.1 rfl rfl ?_
    refine X_dup hK kd32_16.2.2.2.2.2.2.2.2.2.2.2 rfl ?_
    refine X_getK hK fl_X5_39_6 hs_a0 ((xs_k hg38 (by decide)).trans ((xs_k hg36 (by decide)).trans ((hg2 a0 6 0 6 hs_a0 (by decide)).trans es6))) kd32_17.1 ?_
    refine X_iload hK (i := 9) 0 kd32_17.2.1 rfl ?_
    refine X_aloadn hK (i := 1) 6 kd32_17.2.2.1 rfl rfl ?_
    refine X_getK hK fl_X5_83_2 hs_a1 ((xs_k hg38 (by decide)).trans ((xs_k hg36 (by decide)).trans ((hg2 a1 2 0 3 hs_a1 (by decide)).trans ecp))) kd32_17.2.2.2.1 ?_
    refine X_iload hK (i := 5) 4 kd32_17.2.2.2.2.1 rfl ?_
    refine X_callN hK [.int (iI cp), .int (iI z8)] [.int (iI ((0 * z29) + z34)), .int (iI s6), .ref a0] lk_X5_102 (m_costOf _ _ _ _ _ S g38 cp z8 (by omega) (by omega)) kd32_17.2.2.2.2.2.1 rfl rfl (by simp [Value.category]) (by decide) (by decide) (by decide) (by decide) (fun r39 S41 g40 pr39 qr39 hg40 => ?_)
    obtain ⟨rfl, rfl, z42, rfl, lz42, uz42, k43⟩ := pr39
    refine X_st [.int (iI z42), .int (iI ((0 * z29) + z34)), .int (iI s6), .ref a0] rfl ?_
    refine X_isub hK kd32_17.2.2.2.2.2.2.1 ?_
    refine X_iadd hK kd32_17.2.2.2.2.2.2.2.1 ?_
    refine X_norm (fun z44 ez44 lz44 uz44 => ?_)
    refine X_puti hK fl_X5_39_6 hs_a0 (by decide) sl_6_6 (by omega) (by omega) kd32_17.2.2.2.2.2.2.2.2.1 (fun g45 hg45 => ?_)
    refine X_iload hK (i := 4) 9 kd32_17.2.2.2.2.2.2.2.2.2.1 rfl ?_
    refine X_if_eq hK 176 (by omega) kd32_17.2.2.2.2.2.2.2.2.2.2.1 (by decide) (fun c46 => False.elim (by omega)) (fun c46 => ?_)
    refine X_aloadn hK (i := 1) 6 kd32_17.2.2.2.2.2.2.2.2.2.2.2 rfl rfl ?_
    refine X_iload hK (i := 6) 3 kd32_18.1 rfl ?_
    refine X_puti hK fl_X5_153_2 hs_a1 (by decide) sl_2_8 (by omega) (by omega) kd32_18.2.1 (fun g47 hg47 => ?_)
    refine X_aloadn hK (i := 1) 6 kd32_18.2.2.1 rfl rfl ?_
    refine X_iload hK (i := 8) 1 kd32_18.2.2.2.1 rfl ?_
    refine X_puti hK fl_X5_156_2 hs_a1 (by decide) sl_2_9 (by omega) (by omega) kd32_18.2.2.2.2.1 (fun g48 hg48 => ?_)
    refine X_aloadn hK (i := 1) 6 kd32_18.2.2.2.2.2.1 rfl rfl ?_
    refine X_iload hK (i := 7) 2 kd32_18.2.2.2.2.2.2.1 rfl ?_
    refine X_iload hK (i := 8) 1 kd32_18.2.2.2.2.2.2.2.1 rfl ?_
    refine X_isub hK kd32_18.2.2.2.2.2.2.2.2.1 ?_
    refine X_puti hK fl_X5_159_2 hs_a1 (by decide) sl_2_10 (by omega) (by omega) kd32_18.2.2.2.2.2.2.2.2.2.1 (fun g49 hg49 => ?_)
    refine X_aloadn hK (i := 1) 6 kd32_18.2.2.2.2.2.2.2.2.2.2.1 rfl rfl ?_
    refine X_getK hK fl_X5_49_2 hs_a1 ((xs_k hg49 (by decide)).trans ((xs_k hg48 (by decide)).trans ((xs_k hg47 (by decide)).trans ((xs_k hg45 (by decide)).trans ((xs_k hg38 (by decide)).trans ((xs_k hg36 (by decide)).trans ((hg2 a1 2 0 0 hs_a1 (by decide)).trans eyb))))))) kd32_18.2.2.2.2.2.2.2.2.2.2.2 ?_
    refine X_dup hK kd32_19.1 rfl ?_
    refine X_getK hK fl_X5_106_1 hs_yb ((xs_k hg49 (by decide)).trans ((xs_k hg48 (by decide)).trans ((xs_k hg47 (by decide)).trans ((xs_k hg45 (by decide)).trans ((xs_k hg38 (by decide)).trans ((xs_a hg36 (xne hs_yb hs_a0 (by decide))).trans ((hg2 yb 1 0 5 hs_yb (by decide)).trans ecn))))))) kd32_19.2.1 ?_
    refine X_iload hK (i := 9) 0 kd32_19.2.2.1 rfl ?_
    refine X_iadd hK kd32_19.2.2.2.1 ?_
    refine X_norm (fun z50 ez50 lz50 uz50 => ?_)
    refine X_puti hK fl_X5_106_1 hs_yb (by decide) sl_1_5 (by omega) (by omega) kd32_19.2.2.2.2.1 (fun g51 hg51 => ?_)
    refine X_iload hK (i := 6) 3 kd32_19.2.2.2.2.2.1 rfl ?_
    exact hret _ _ _ _ _ _ _ kd32_19.2.2.2.2.2.2.1 ⟨rfl, 0, rfl, (by omega), (by omega), (by rw [← k14, if_neg (by omega)]), (by rw [← k20, ← k25]; omega), (((xs_a hg51 (xne hs_a0 hs_yb (by decide))).trans ((xs_k hg49 (by decide)).trans ((xs_k hg48 (by decide)).trans ((xs_k hg47 (by decide)).trans ((xs_k hg45 (by decide)).trans ((xs_k hg38 (by decide)).trans (xs_s hg36))))))).trans (by rw [xwp.e])), (((xs_k hg51 (by decide)).trans ((xs_k hg49 (by decide)).trans ((xs_k hg48 (by decide)).trans ((xs_k hg47 (by decide)).trans (xs_s hg45))))).trans (by rw [xwp.e, ez44, k35, k43, k25, k30, k20, k9])), (((xs_k hg51 (by decide)).trans ((xs_k hg49 (by decide)).trans ((xs_k hg48 (by decide)).trans ((xs_k hg47 (by decide)).trans ((xs_k hg45 (by decide)).trans (xs_s hg38)))))).trans (by rw [xwp.e, ez37, k25, k20])), ((xs_k hg51 (by decide)).trans ((xs_k hg49 (by decide)).trans ((xs_k hg48 (by decide)).trans (xs_s hg47)))), (((xs_k hg51 (by decide)).trans ((xs_k hg49 (by decide)).trans (xs_s hg48))).trans (by rw [k25, k20])), (((xs_k hg51 (by decide)).trans (xs_s hg49)).trans (by rw [k25, k20])), ((xs_s hg51).trans (by rw [xwp.e, ez50, k35, k25, k30, k20, k9])), (xFr.t (xFr.w (xFr.w (xFr.w (xFr.t (xFr.t (xFr.t (xFr.m xFr.rf hg2 (by decide)) hg36 hs_a0 (by decide)) hg38 hs_a0 (by decide)) hg45 hs_a0 (by decide)) hg47) hg48) hg49) hg51 hs_yb (by decide)), (xFr.w (xFr.t (xFr.t (xFr.t (xFr.t (xFr.t (xFr.t (xFr.m xFr.rf hg2 (by decide)) hg36 hs_a0 (by decide)) hg38 hs_a0 (by decide)) hg45 hs_a0 (by decide)) hg47 hs_a1 (by decide)) hg48 hs_a1 (by decide)) hg49 hs_a1 (by decide)) hg51)⟩ (Nat.le_refl _) (Nat.le_refl _)
  · refine X_iloadn hK (i := 3) 4 kd32_13.1 rfl rfl ?_
    refine X_aloadn hK (i := 1) 2 kd32_13.2.1 rfl rfl ?_
    refine X_getK hK fl_X5_83_2 hs_a1 ((hg2 a1 2 0 3 hs_a1 (by decide)).trans ecp) kd32_13.2.2.1 ?_
    refine X_mmin hK mm_X5_142 ⟨by decide, by simp [Value.category]⟩ (by decide) (by omega) (by omega) kd32_13.2.2.2.1 (fun z52 ez52 fz52 => ?_)
    have bz52 : 0 ≤ z52 ∧ z52 ≤ 1000 := by omega
    refine X_goto hK 41 kd32_13.2.2.2.2.1 (by decide) ?_
    refine X_istore hK (i := 6) [(6, .int (iI z52)), (5, .int (iI z8)), (0, .ref a0), (1, .ref a1), (2, .ref a2), (3, .int (iI x3)), (4, .int (iI x4))] kd32_13.2.2.2.2.2.2.1 (by decide) rfl ?_
    refine X_aloadn hK (i := 1) 3 kd32_13.2.2.2.2.2.2.2.1 rfl rfl ?_
    refine X_getK hK fl_X5_83_2 hs_a1 ((hg2 a1 2 0 3 hs_a1 (by decide)).trans ecp) kd32_13.2.2.2.2.2.2.2.2.1 ?_
    refine X_iload hK (i := 6) 0 kd32_13.2.2.2.2.2.2.2.2.2.1 rfl ?_
    refine X_isub hK kd32_13.2.2.2.2.2.2.2.2.2.2.1 ?_
    refine X_istore hK (i := 7) [(7, .int (iI (cp - z52))), (6, .int (iI z52)), (5, .int (iI z8)), (0, .ref a0), (1, .ref a1), (2, .ref a2), (3, .int (iI x3)), (4, .int (iI x4))] kd32_13.2.2.2.2.2.2.2.2.2.2.2 (by decide) rfl ?_
    refine X_iload hK (i := 7) 0 kd32_14.1 rfl ?_
    refine X_aloadn hK (i := 2) 5 kd32_14.2.1 rfl rfl ?_
    refine X_iconst hK kd32_14.2.2.1 ?_
    refine X_aloadn hK (i := 0) 3 kd32_14.2.2.2.1 rfl rfl ?_
    refine X_getK hK fl_X5_31_6 hs_a0 ((hg2 a0 6 0 4 hs_a0 (by decide)).trans efa) kd32_14.2.2.2.2.1 ?_
    refine X_callV hK [.int (iI 2), .ref fa] [.int (iI (cp - z52))] lk_X5_96 (m_tells _ _ _ _ _ S g2 a2 2 fa ln wk wn wf wb ws (xfct sc ag fi bd (if xv g ow co = nu then 1 else 0) ho dy pp co cp (xv g sk dy)) T hs_a2 (by omega) hs_fa (by omega) ((hg2 a2 11 0 1 hs_a2 (by decide)).trans eln) ((hg2 a2 11 0 3 hs_a2 (by decide)).trans ewk) hs_wk ((hg2 a2 11 0 4 hs_a2 (by decide)).trans ewn) hs_wn ((hg2 a2 11 0 5 hs_a2 (by decide)).trans ewf) hs_wf ((hg2 a2 11 0 6 hs_a2 (by decide)).trans ewb) hs_wb ((hg2 a2 11 0 7 hs_a2 (by decide)).trans ews) hs_ws k4 (by rw [(xv_m hg2 hs_wk (by decide) (by decide)), (xv_m hg2 hs_wn (by decide) (by decide)), (xv_m hg2 hs_wf (by decide) (by decide)), (xv_m hg2 hs_wb (by decide) (by decide)), (xv_m hg2 hs_ws (by decide) (by decide))]; exact hp0)) hs_a2 ⟨by decide, rfl⟩ kd32_14.2.2.2.2.2.1 rfl rfl (by simp [Value.category]) (by decide) (by decide) (by decide) (by decide) (fun r53 S55 g54 pr53 qr53 hg54 => ?_)
    obtain ⟨rfl, rfl, z56, rfl, lz56, uz56, k57⟩ := pr53
    refine X_st [.int (iI z56), .int (iI (cp - z52))] rfl ?_
    refine X_callN hK [.int (iI (cp - z52)), .int (iI z56)] [] lk_X5_147 (m_backOf _ _ _ _ _ S g2 (cp - z52) z56 (by omega) (by omega)) kd32_14.2.2.2.2.2.2.1 rfl rfl (by simp [Value.category]) (by decide) (by decide) (by decide) (by decide) (fun r58 S60 g59 pr58 qr58 hg59 => ?_)
    obtain ⟨rfl, rfl, z61, rfl, lz61, uz61, k62⟩ := pr58
    refine X_st [.int (iI z61)] rfl ?_
    refine X_istore hK (i := 8) [(8, .int (iI z61)), (7, .int (iI (cp - z52))), (6, .int (iI z52)), (5, .int (iI z8)), (0, .ref a0), (1, .ref a1), (2, .ref a2), (3, .int (iI x3)), (4, .int (iI x4))] kd32_14.2.2.2.2.2.2.2.1 (by decide) rfl ?_
    refine X_iload hK (i := 6) 2 kd32_14.2.2.2.2.2.2.2.2.1 rfl ?_
    refine X_aloadn hK (i := 2) 6 kd32_14.2.2.2.2.2.2.2.2.2.1 rfl rfl ?_
    refine X_iconst hK kd32_14.2.2.2.2.2.2.2.2.2.2.1 ?_
    refine X_aloadn hK (i := 0) 4 kd32_14.2.2.2.2.2.2.2.2.2.2.2 rfl rfl ?_
    refine X_getK hK fl_X5_31_6 hs_a0 ((hg2 a0 6 0 4 hs_a0 (by decide)).trans efa) kd32_15.1 ?_
    refine X_callV hK [.int (iI 1), .ref fa] [.int (iI z52)] lk_X5_96 (m_tells _ _ _ _ _ S g2 a2 1 fa ln wk wn wf wb ws (xfct sc ag fi bd (if xv g ow co = nu then 1 else 0) ho dy pp co cp (xv g sk dy)) T hs_a2 (by omega) hs_fa (by omega) ((hg2 a2 11 0 1 hs_a2 (by decide)).trans eln) ((hg2 a2 11 0 3 hs_a2 (by decide)).trans ewk) hs_wk ((hg2 a2 11 0 4 hs_a2 (by decide)).trans ewn) hs_wn ((hg2 a2 11 0 5 hs_a2 (by decide)).trans ewf) hs_wf ((hg2 a2 11 0 6 hs_a2 (by decide)).trans ewb) hs_wb ((hg2 a2 11 0 7 hs_a2 (by decide)).trans ews) hs_ws k4 (by rw [(xv_m hg2 hs_wk (by decide) (by decide)), (xv_m hg2 hs_wn (by decide) (by decide)), (xv_m hg2 hs_wf (by decide) (by decide)), (xv_m hg2 hs_wb (by decide) (by decide)), (xv_m hg2 hs_ws (by decide) (by decide))]; exact hp0)) hs_a2 ⟨by decide, rfl⟩ kd32_15.2.1 rfl rfl (by simp [Value.category]) (by decide) (by decide) (by decide) (by decide) (fun r63 S65 g64 pr63 qr63 hg64 => ?_)
    obtain ⟨rfl, rfl, z66, rfl, lz66, uz66, k67⟩ := pr63
    refine X_st [.int (iI z66), .int (iI z52)] rfl ?_
    refine X_imul hK kd32_15.2.2.1 ?_
    have hm68 := xmulB (a := z52) (b := z66) (A := 1000) (B := 1000) (by omega) (by omega) (by omega) (by omega)
    refine X_iload hK (i := 8) 0 kd32_15.2.2.2.1 rfl ?_
    refine X_iload hK (i := 5) 3 kd32_15.2.2.2.2.1 rfl ?_
    refine X_callN hK [.int (iI z61), .int (iI z8)] [.int (iI (z52 * z66))] lk_X5_150 (m_paidFor _ _ _ _ _ S g2 z61 z8 (by omega) (by omega)) kd32_15.2.2.2.2.2.1 rfl rfl (by simp [Value.category]) (by decide) (by decide) (by decide) (by decide) (fun r69 S71 g70 pr69 qr69 hg70 => ?_)
    obtain ⟨rfl, rfl, z72, rfl, lz72, uz72, k73⟩ := pr69
    refine X_st [.int (iI z72), .int (iI (z52 * z66))] rfl ?_
    refine X_iadd hK kd32_15.2.2.2.2.2.2.1 ?_
    refine X_istore hK (i := 9) [(9, .int (iI ((z52 * z66) + z72))), (8, .int (iI z61)), (7, .int (iI (cp - z52))), (6, .int (iI z52)), (5, .int (iI z8)), (0, .ref a0), (1, .ref a1), (2, .ref a2), (3, .int (iI x3)), (4, .int (iI x4))] kd32_15.2.2.2.2.2.2.2.1 (by decide) rfl ?_
    refine X_aloadn hK (i := 0) 5 kd32_15.2.2.2.2.2.2.2.2.1 rfl rfl ?_
    refine X_dup hK kd32_15.2.2.2.2.2.2.2.2.2.1 rfl ?_
    refine X_getK hK fl_X5_35_6 hs_a0 ((hg2 a0 6 0 5 hs_a0 (by decide)).trans es5) kd32_15.2.2.2.2.2.2.2.2.2.2.1 ?_
    refine X_iload hK (i := 6) 3 kd32_15.2.2.2.2.2.2.2.2.2.2.2 rfl ?_
    refine X_iadd hK kd32_16.1 ?_
    refine X_norm (fun z74 ez74 lz74 uz74 => ?_)
    refine X_puti hK fl_X5_35_6 hs_a0 (by decide) sl_6_5 (by omega) (by omega) kd32_16.2.1 (fun g75 hg75 => ?_)
    refine X_aloadn hK (i := 0) 5 kd32_16.2.2.1 rfl rfl ?_
    refine X_dup hK kd32_16.2.2.2.1 rfl ?_
    refine X_getK hK fl_X5_42_6 hs_a0 ((xs_k hg75 (by decide)).trans ((hg2 a0 6 0 7 hs_a0 (by decide)).trans es7)) kd32_16.2.2.2.2.1 ?_
    refine X_iload hK (i := 7) 2 kd32_16.2.2.2.2.2.1 rfl ?_
    refine X_iload hK (i := 8) 1 kd32_16.2.2.2.2.2.2.1 rfl ?_
    refine X_isub hK kd32_16.2.2.2.2.2.2.2.1 ?_
    refine X_iadd hK kd32_16.2.2.2.2.2.2.2.2.1 ?_
    refine X_norm (fun z76 ez76 lz76 uz76 => ?_)
    refine X_puti hK fl_X5_42_6 hs_a0 (by decide) sl_6_7 (by omega) (by omega) kd32_16.2.2.2.2.2.2.2.2.2.1 (fun g77 hg77 => ?_)
    refine X_aloadn hK (i := 0) 5 kd32_16.2.2.2.2.2.2.2.2.2.2.1 rfl rfl ?_
    refine X_dup hK kd32_16.2.2.2.2.2.2.2.2.2.2.2 rfl ?_
    refine X_getK hK fl_X5_39_6 hs_a0 ((xs_k hg77 (by decide)).trans ((xs_k hg75 (by decide)).trans ((hg2 a0 6 0 6 hs_a0 (by decide)).trans es6))) kd32_17.1 ?_
    refine X_iload hK (i := 9) 0 kd32_17.2.1 rfl ?_
    refine X_aloadn hK (i := 1) 6 kd32_17.2.2.1 rfl rfl ?_
    refine X_getK hK fl_X5_83_2 hs_a1 ((xs_k hg77 (by decide)).trans ((xs_k hg75 (by decide)).trans ((hg2 a1 2 0 3 hs_a1 (by decide)).trans ecp))) kd32_17.2.2.2.1 ?_
    refine X_iload hK (i := 5) 4 kd32_17.2.2.2.2.1 rfl ?_
    refine X_callN hK [.int (iI cp), .int (iI z8)] [.int (iI ((z52 * z66) + z72)), .int (iI s6), .ref a0] lk_X5_102 (m_costOf _ _ _ _ _ S g77 cp z8 (by omega) (by omega)) kd32_17.2.2.2.2.2.1 rfl rfl (by simp [Value.category]) (by decide) (by decide) (by decide) (by decide) (fun r78 S80 g79 pr78 qr78 hg79 => ?_)
    obtain ⟨rfl, rfl, z81, rfl, lz81, uz81, k82⟩ := pr78
    refine X_st [.int (iI z81), .int (iI ((z52 * z66) + z72)), .int (iI s6), .ref a0] rfl ?_
    refine X_isub hK kd32_17.2.2.2.2.2.2.1 ?_
    refine X_iadd hK kd32_17.2.2.2.2.2.2.2.1 ?_
    refine X_norm (fun z83 ez83 lz83 uz83 => ?_)
    refine X_puti hK fl_X5_39_6 hs_a0 (by decide) sl_6_6 (by omega) (by omega) kd32_17.2.2.2.2.2.2.2.2.1 (fun g84 hg84 => ?_)
    refine X_iload hK (i := 4) 9 kd32_17.2.2.2.2.2.2.2.2.2.1 rfl ?_
    refine X_if_eq hK 176 (by omega) kd32_17.2.2.2.2.2.2.2.2.2.2.1 (by decide) (fun c85 => False.elim (by omega)) (fun c85 => ?_)
    refine X_aloadn hK (i := 1) 6 kd32_17.2.2.2.2.2.2.2.2.2.2.2 rfl rfl ?_
    refine X_iload hK (i := 6) 3 kd32_18.1 rfl ?_
    refine X_puti hK fl_X5_153_2 hs_a1 (by decide) sl_2_8 (by omega) (by omega) kd32_18.2.1 (fun g86 hg86 => ?_)
    refine X_aloadn hK (i := 1) 6 kd32_18.2.2.1 rfl rfl ?_
    refine X_iload hK (i := 8) 1 kd32_18.2.2.2.1 rfl ?_
    refine X_puti hK fl_X5_156_2 hs_a1 (by decide) sl_2_9 (by omega) (by omega) kd32_18.2.2.2.2.1 (fun g87 hg87 => ?_)
    refine X_aloadn hK (i := 1) 6 kd32_18.2.2.2.2.2.1 rfl rfl ?_
    refine X_iload hK (i := 7) 2 kd32_18.2.2.2.2.2.2.1 rfl ?_
    refine X_iload hK (i := 8) 1 kd32_18.2.2.2.2.2.2.2.1 rfl ?_
    refine X_isub hK kd32_18.2.2.2.2.2.2.2.2.1 ?_
    refine X_puti hK fl_X5_159_2 hs_a1 (by decide) sl_2_10 (by omega) (by omega) kd32_18.2.2.2.2.2.2.2.2.2.1 (fun g88 hg88 => ?_)
    refine X_aloadn hK (i := 1) 6 kd32_18.2.2.2.2.2.2.2.2.2.2.1 rfl rfl ?_
    refine X_getK hK fl_X5_49_2 hs_a1 ((xs_k hg88 (by decide)).trans ((xs_k hg87 (by decide)).trans ((xs_k hg86 (by decide)).trans ((xs_k hg84 (by decide)).trans ((xs_k hg77 (by decide)).trans ((xs_k hg75 (by decide)).trans ((hg2 a1 2 0 0 hs_a1 (by decide)).trans eyb))))))) kd32_18.2.2.2.2.2.2.2.2.2.2.2 ?_
    refine X_dup hK kd32_19.1 rfl ?_
    refine X_getK hK fl_X5_106_1 hs_yb ((xs_k hg88 (by decide)).trans ((xs_k hg87 (by decide)).trans ((xs_k hg86 (by decide)).trans ((xs_k hg84 (by decide)).trans ((xs_k hg77 (by decide)).trans ((xs_a hg75 (xne hs_yb hs_a0 (by decide))).trans ((hg2 yb 1 0 5 hs_yb (by decide)).trans ecn))))))) kd32_19.2.1 ?_
    refine X_iload hK (i := 9) 0 kd32_19.2.2.1 rfl ?_
    refine X_iadd hK kd32_19.2.2.2.1 ?_
    refine X_norm (fun z89 ez89 lz89 uz89 => ?_)
    refine X_puti hK fl_X5_106_1 hs_yb (by decide) sl_1_5 (by omega) (by omega) kd32_19.2.2.2.2.1 (fun g90 hg90 => ?_)
    refine X_iload hK (i := 6) 3 kd32_19.2.2.2.2.2.1 rfl ?_
    exact hret _ _ _ _ _ _ _ kd32_19.2.2.2.2.2.2.1 ⟨rfl, z52, rfl, (by omega), (by omega), (by rw [← k14, if_pos (by omega)]; unfold xmn9; split <;> omega), (by rw [← k57, ← k62]; omega), (((xs_a hg90 (xne hs_a0 hs_yb (by decide))).trans ((xs_k hg88 (by decide)).trans ((xs_k hg87 (by decide)).trans ((xs_k hg86 (by decide)).trans ((xs_k hg84 (by decide)).trans ((xs_k hg77 (by decide)).trans (xs_s hg75))))))).trans (by rw [xwp.e, ez74])), (((xs_k hg90 (by decide)).trans ((xs_k hg88 (by decide)).trans ((xs_k hg87 (by decide)).trans ((xs_k hg86 (by decide)).trans (xs_s hg84))))).trans (by rw [xwp.e, ez83, k73, k82, k62, k67, k57, k9])), (((xs_k hg90 (by decide)).trans ((xs_k hg88 (by decide)).trans ((xs_k hg87 (by decide)).trans ((xs_k hg86 (by decide)).trans ((xs_k hg84 (by decide)).trans (xs_s hg77)))))).trans (by rw [xwp.e, ez76, k62, k57])), ((xs_k hg90 (by decide)).trans ((xs_k hg88 (by decide)).trans ((xs_k hg87 (by decide)).trans (xs_s hg86)))), (((xs_k hg90 (by decide)).trans ((xs_k hg88 (by decide)).trans (xs_s hg87))).trans (by rw [k62, k57])), (((xs_k hg90 (by decide)).trans (xs_s hg88)).trans (by rw [k62, k57])), ((xs_s hg90).trans (by rw [xwp.e, ez89, k73, k62, k67, k57, k9])), (xFr.t (xFr.w (xFr.w (xFr.w (xFr.t (xFr.t (xFr.t (xFr.m xFr.rf hg2 (by decide)) hg75 hs_a0 (by decide)) hg77 hs_a0 (by decide)) hg84 hs_a0 (by decide)) hg86) hg87) hg88) hg90 hs_yb (by decide)), (xFr.w (xFr.t (xFr.t (xFr.t (xFr.t (xFr.t (xFr.t (xFr.m xFr.rf hg2 (by decide)) hg75 hs_a0 (by decide)) hg77 hs_a0 (by decide)) hg84 hs_a0 (by decide)) hg86 hs_a1 (by decide)) hg87 hs_a1 (by decide)) hg88 hs_a1 (by decide)) hg90)⟩ (Nat.le_refl _) (Nat.le_refl _)

set_option maxHeartbeats 4000000 in
set_option maxRecDepth 100000 in
theorem m_cryDay0 (l : Launch) (D : va_G) (kA : Nat → ClassId) (b0 : Nat) (t0 : Nat → Nat) (S : xT) (g : xG) (a0 : Nat) (x1 : Int) (a2 : Nat) (x3 : Int) (bn : Nat) (bo : Nat) (w3 : Nat) (ct : Nat) (ow : Nat) (nu : Int) (nb : Int) (sk : Nat) (hg : Nat) (wt : Nat) (ld : Nat) (wg : Nat) (fa : Nat) (s5 : Int) (s6 : Int) (s7 : Int) (ln : Int) (wk : Nat) (wn : Nat) (wf : Nat) (wb : Nat) (ws : Nat) (c9 s9 : Nat) (U : Int → Nat) (B : Int → Nat) (Y : Nat → Int → Int) (YB : Nat → Int → Int) (T : List xL3) (WN : Int → Int → Int) (HD : Int → Int → Int) (hs_a0 : S a0 = some (6, 0)) (hx1 : 0 ≤ x1 ∧ x1 ≤ 399) (hs_a2 : S a2 = some (11, 0)) (hx3 : 0 ≤ x3 ∧ x3 ≤ 0) (ebn : g a0 2 = .ref bn) (hs_bn : S bn = some (100, 0)) (ebo : g a0 1 = .ref bo) (hs_bo : S bo = some (0, 0)) (ew3 : g a0 3 = .ref w3) (hs_w3 : S w3 = some (200, 0)) (ect : g a0 0 = .ref ct) (hs_ct : S ct = some (4, 0)) (eow : g ct 5 = .ref ow) (hs_ow : S ow = some (11400, 10)) (hnu : 0 ≤ nu ∧ nu ≤ 200) (enu : g bn 2 = .int (iI nu)) (hnb : 0 ≤ nb ∧ nb ≤ 40) (enb : g bo 2 = .int (iI nb)) (esk : g ct 0 = .ref sk) (hs_sk : S sk = some (10700, 400)) (ehg : g ct 1 = .ref hg) (hs_hg : S hg = some (10904, 4)) (ewt : g ct 2 = .ref wt) (hs_wt : S wt = some (11000, 4)) (eld : g ct 3 = .ref ld) (hs_ld : S ld = some (11100, 6)) (ewg : g ct 4 = .ref wg) (hs_wg : S wg = some (11304, 10)) (efa : g a0 4 = .ref fa) (hs_fa : S fa = some (12000, 12)) (hs5 : (-2147483648) ≤ s5 ∧ s5 ≤ 2147483647) (es5 : g a0 5 = .int (iI s5)) (hs6 : (-2147483648) ≤ s6 ∧ s6 ≤ 2147483647) (es6 : g a0 6 = .int (iI s6)) (hs7 : (-2147483648) ≤ s7 ∧ s7 ≤ 2147483647) (es7 : g a0 7 = .int (iI s7)) (hln : 0 ≤ ln ∧ ln ≤ 16) (eln : g a2 1 = .int (iI ln)) (ewk : g a2 3 = .ref wk) (hs_wk : S wk = some (13600, 16)) (ewn : g a2 4 = .ref wn) (hs_wn : S wn = some (13700, 16)) (ewf : g a2 5 = .ref wf) (hs_wf : S wf = some (13800, 16)) (ewb : g a2 6 = .ref wb) (hs_wb : S wb = some (13900, 16)) (ews : g a2 7 = .ref ws) (hs_ws : S ws = some (14000, 100)) (hp0 : xLs S g) (hp1 : xSi S t0) (hp2 : xQk S g w3 c9 s9) (hp3 : xUW S g bn nu nb U B Y) (hp4 : xBW S g bo nb B YB) (hp5 : xTc9 (xv g wk) (xv g wn) (xv g wf) (xv g wb) (xv g ws) ln T) (hp6 : xWW S g wg WN) (hp7 : xHW S g hg HD) : xMu l yX5_cryDay cX5_cryDay 7 none 8 10 962 191 D kA b0 t0 [(200, 0), (200, 2), (10403, 0), (200, 1), (12000, 0), (6, 5), (6, 7), (6, 6)] [.ref a0, .int (iI x1), .ref a2, .int (iI x3)] S g (fun (r : Option Value) (S1 : xT) (g1 : xG) (dc ds : Nat) => xNw2 S S1 [10403] ∧ r = none ∧ (xLs S1 g1) ∧ (xSi S1 t0) ∧ (xQk S1 g1 w3 (c9 + dc) (s9 + ds)) ∧ (c9 + dc ≤ 9 ∧ s9 + ds ≤ 718) ∧ (∃ (s9 : Int → Int), xUW S1 g1 bn nu nb U B Y ∧ xBW S1 g1 bo nb B YB ∧ xSd nu.toNat (Y 5) (Y 2) (Y 1) (Y 3) (xKY Y YB (xv g ow)) (fun k9 => xts9 T ((xF9 YB Y (xv g ow) (xv g sk)) k9) 4) (fun c9 p9 => xas (WN c9 p9) (xv g wt (xv g sk x1)) (xv g ld (HD p9 x1))) x1 s9 ∧ g1 a0 5 = .int (iI (xwp (s5 + xzm (fun k9 => if Y 5 k9 = x1 then xwh9 0 T (xF9 YB Y (xv g ow) (xv g sk)) (Y 3) s9 k9 else 0) nu.toNat))) ∧ g1 a0 6 = .int (iI (xwp (s6 + xzm (fun k9 => if Y 5 k9 = x1 then xwh9 2 T (xF9 YB Y (xv g ow) (xv g sk)) (Y 3) s9 k9 else 0) nu.toNat))) ∧ g1 a0 7 = .int (iI (xwp (s7 + xzm (fun k9 => if Y 5 k9 = x1 then xwh9 1 T (xF9 YB Y (xv g ow) (xv g sk)) (Y 3) s9 k9 else 0) nu.toNat))))) := by
  refine xEnterUV (by decide) (by simp [lg_sl, Value.category]) [(0, .ref a0), (1, .int (iI x1)), (2, .ref a2), (3, .int (iI x3))] rfl ?_
  intro K E hK hret hS0 _ hini ht
  subst ht
  refine X_aloadn hK (i := 0) 0 kd45_9.2.1 rfl rfl ?_
  refine X_iloadn hK (i := 1) 1 kd45_9.2.2.1 rfl rfl ?_
  refine X_callVU hK [.int (iI x1)] [] lk_X5_127 (m_lineUp _ _ _ _ _ S g a0 x1 bn bo w3 ct ow nu nb c9 s9 U B Y YB hs_a0 (by omega) ebn hs_bn ebo hs_bo ew3 hs_w3 ect hs_ct eow hs_ow (by omega) enu (by omega) enb hp0 hp1 hp2 hp3 hp4) hs_a0 ⟨by decide, rfl⟩ kd45_9.2.2.2.1 rfl rfl (by simp [Value.category]) (by decide) (by omega) (by omega) (by decide) (fun r1 S3 g2 dcr1 dsr1 pr1 qr1 hg2 => ?_)
  obtain ⟨wr1, rfl, k4, k5, k6, k7, k8⟩ := pr1
  refine X_st [] rfl ?_
  obtain ⟨qq9, mq9, emq9, rmq9, hqq9, hwq9⟩ := k8
  have hn9 : ((nu.toNat : Nat) : Int) = nu := by omega
  have hq9 : xQs ((nu.toNat : Nat) : Int) (Y 5) (xKY Y YB (xv g ow)) x1 qq9 mq9 := by rw [hn9]; exact hqq9
  have hkp9 := xUW.kp (ow := xv g ow) hp3 hp4 (by omega)
  have hpr9 := xUW.pr hp3
  refine X_iconst hK kd45_9.2.2.2.2.1 ?_
  refine X_istore hK (i := 4) [(4, .int (iI 0)), (0, .ref a0), (1, .int (iI x1)), (2, .ref a2), (3, .int (iI x3))] kd45_9.2.2.2.2.2.1 (by decide) rfl ?_
  refine X_iconst hK kd45_9.2.2.2.2.2.2.1 ?_
  refine X_istore hK (i := 5) [(5, .int (iI 0)), (4, .int (iI 0)), (0, .ref a0), (1, .int (iI x1)), (2, .ref a2), (3, .int (iI x3))] kd45_9.2.2.2.2.2.2.2.1 (by decide) rfl ?_
  have P349 : ∀ (nP349 : Nat) (g283 : xG) (_ : xM [(12000, 0), (6, 5), (6, 7), (6, 6)] S3 g2 g283) (z281 : Int) (_ : 0 ≤ z281) (_ : z281 ≤ 200) (z282 : Int) (_ : 0 ≤ z282) (_ : z282 ≤ 3600) (q284 : Int) (_ : (-2147483648) ≤ q284) (_ : q284 ≤ 2147483647) (_ : g283 a0 5 = .int (iI q284)) (q285 : Int) (_ : (-2147483648) ≤ q285) (_ : q285 ≤ 2147483647) (_ : g283 a0 6 = .int (iI q285)) (q286 : Int) (_ : (-2147483648) ≤ q286) (_ : q286 ≤ 2147483647) (_ : g283 a0 7 = .int (iI q286)) (_ : ∃ (s9 : Int → Int), xUW S3 g283 bn nu nb U B Y ∧ xBW S3 g283 bo nb B YB ∧ xQW S3 g283 w3 mq9 U qq9 ∧ xQcr nu.toNat (Y 5) (Y 2) (Y 1) (Y 3) (xKY Y YB (xv g ow)) (fun k9 => xts9 T ((xF9 YB Y (xv g ow) (xv g sk)) k9) 4) (fun c9 p9 => xas (WN c9 p9) (xv g wt (xv g sk x1)) (xv g ld (HD p9 x1))) x1 qq9 z281 s9 z282 ∧ q284 = xwp (s5 + xzm (fun j9 => xwh9 0 T (xF9 YB Y (xv g ow) (xv g sk)) (Y 3) s9 (qq9 j9)) z281.toNat) ∧ q285 = xwp (s6 + xzm (fun j9 => xwh9 2 T (xF9 YB Y (xv g ow) (xv g sk)) (Y 3) s9 (qq9 j9)) z281.toNat) ∧ q286 = xwp (s7 + xzm (fun j9 => xwh9 1 T (xF9 YB Y (xv g ow) (xv g sk)) (Y 3) s9 (qq9 j9)) z281.toNat)) (_ : z281 ≤ mq9) (_ : 300 - z281 < (nP349 : Int)), X K E 11 [(5, .int (iI z281)), (4, .int (iI z282)), (0, .ref a0), (1, .int (iI x1)), (2, .ref a2), (3, .int (iI x3))] [] S3 g283 (0 + dcr1) (0 + dsr1) := by
    intro nP349
    induction nP349 with
    | zero => intro g283 hg283 z281 lz281 uz281 z282 lz282 uz282 q284 lq284 uq284 eq284 q285 lq285 uq285 eq285 q286 lq286 uq286 eq286 v350 v351 mP349; exact False.elim (by omega)
    | succ nP349 ihP349 =>
      intro g283 hg283 z281 lz281 uz281 z282 lz282 uz282 q284 lq284 uq284 eq284 q285 lq285 uq285 eq285 q286 lq286 uq286 eq286 v350 v351 mP349
      refine X_iload hK (i := 5) 0 kd45_9.2.2.2.2.2.2.2.2.1 rfl ?_
      obtain ⟨sd352, hUd352, hBd352, hQd352, hcd352, h0d352, h1d352, h2d352⟩ := v350
      refine X_aloadn hK (i := 0) 2 kd45_9.2.2.2.2.2.2.2.2.2.1 rfl rfl ?_
      refine X_getK hK fl_X5_28_6 (qr1 _ _ hs_a0) ((hg283 a0 6 0 3 (qr1 _ _ hs_a0) (by decide)).trans ((hg2 a0 6 0 3 hs_a0 (by decide)).trans ew3)) kd45_9.2.2.2.2.2.2.2.2.2.2.1 ?_
      refine X_callV hK [] [.int (iI z281)] lk_X5_45 (c_size_200 _ _ _ _ _ S3 g283 w3 mq9 (qr1 _ _ hs_w3) (by omega) ((hg283 w3 200 0 2 (qr1 _ _ hs_w3) (by decide)).trans emq9) (xLs_mod k4 hg283 (by decide))) (qr1 _ _ hs_w3) ⟨by decide, rfl⟩ kd45_9.2.2.2.2.2.2.2.2.2.2.2 rfl rfl (by simp [Value.category]) (by decide) (by omega) (by omega) (by decide) (fun r353 S355 g354 pr353 qr353 hg354 => ?_)
      obtain ⟨rfl, rfl, z356, rfl, lz356, uz356, k357⟩ := pr353
      refine X_st [.int (iI z356), .int (iI z281)] rfl ?_
      refine X_icmp_ge hK 108 (by omega) (by omega) kd45_10.1 (by decide) (fun c358 => ?_) (fun c358 => ?_)
      · exact hret _ _ _ _ _ _ kd45_13.2.2.2.2.1 ⟨(xNw2.tr xNw2.rf wr1 (by decide)), rfl, (xLs_mod k4 hg283 (by decide)), k5, (xQk.cg (xQk_mod k6 (qr1 _ _ hs_w3) hg283 (by decide)) (by omega) (by omega)), (xQk.le (xQk.cg (xQk_mod k6 (qr1 _ _ hs_w3) hg283 (by decide)) (by omega) (by omega))), (by have ei : z281 = mq9 := (by omega); have c9 := hcd352; have y0 := h0d352; have y1 := h1d352; have y2 := h2d352; rw [ei] at c9 y0 y1 y2; rw [hq9.sum] at y0 y1 y2; exact ⟨sd352, hUd352, hBd352, xQcr.fin hq9 c9, (by rw [← y0]; exact eq284), (by rw [← y1]; exact eq285), (by rw [← y2]; exact eq286)⟩)⟩ (by omega) (by omega)
      · refine X_aloadn hK (i := 0) 2 kd45_10.2.1 rfl rfl ?_
        refine X_getK hK fl_X5_28_6 (qr1 _ _ hs_a0) ((hg283 a0 6 0 3 (qr1 _ _ hs_a0) (by decide)).trans ((hg2 a0 6 0 3 hs_a0 (by decide)).trans ew3)) kd45_10.2.2.1 ?_
        refine X_iload hK (i := 5) 0 kd45_10.2.2.2.1 rfl ?_
        refine X_callV hK [.int (iI z281)] [] lk_X5_119 (c_get_200 _ _ _ _ _ S3 g283 w3 z281 mq9 (qr1 _ _ hs_w3) (by omega) (by omega) ((hg283 w3 200 0 2 (qr1 _ _ hs_w3) (by decide)).trans emq9) (xLs_mod k4 hg283 (by decide)) (by omega)) (qr1 _ _ hs_w3) ⟨by decide, rfl⟩ kd45_10.2.2.2.2.1 rfl rfl (by simp [Value.category]) (by decide) (by omega) (by omega) (by decide) (fun r359 S361 g360 pr359 qr359 hg360 => ?_)
        obtain ⟨rfl, rfl, b362, rfl, hs_b362, k363⟩ := pr359
        refine X_st [.ref b362] rfl ?_
        have rhe364 := hq9.1 z281 (by omega) (by omega)
        rw [hn9] at rhe364
        have he364 : b362 = U (qq9 z281) := k363.trans (hQd352.2 z281 (by omega) (by omega))
        have hbd365 := hUd352.2.1 (qq9 z281) (by omega) (by omega)
        obtain ⟨abd365, sbd365, ybd365, zbd365, fbd365, rbd365⟩ := hbd365
        unfold xUr at rbd365
        have kbd365 := hBd352.2 (Y 0 (qq9 z281)) (by omega) (by omega)
        obtain ⟨kabd365, ksbd365, kfbd365, krbd365⟩ := kbd365
        unfold xBr at krbd365
        refine X_cast hK hs_b362 ⟨by decide, rfl⟩ m_38_23 kd45_10.2.2.2.2.2.1 ?_
        refine X_astore hK (i := 6) [(6, .ref b362), (5, .int (iI z281)), (4, .int (iI z282)), (0, .ref a0), (1, .int (iI x1)), (2, .ref a2), (3, .int (iI x3))] kd45_10.2.2.2.2.2.2.1 (by decide) rfl ?_
        refine X_iload hK (i := 5) 1 kd45_10.2.2.2.2.2.2.2.1 rfl ?_
        refine X_if_eq hK 67 (by omega) kd45_10.2.2.2.2.2.2.2.2.1 (by decide) (fun c366 => ?_) (fun c366 => ?_)
        · refine X_aloadn hK (i := 0) 3 kd45_11.2.2.2.2.2.2.2.2.1 rfl rfl ?_
          refine X_getK hK fl_X5_12_6 (qr1 _ _ hs_a0) ((hg283 a0 6 0 0 (qr1 _ _ hs_a0) (by decide)).trans ((hg2 a0 6 0 0 hs_a0 (by decide)).trans ect)) kd45_11.2.2.2.2.2.2.2.2.2.1 ?_
          refine X_iloadn hK (i := 1) 4 kd45_11.2.2.2.2.2.2.2.2.2.2.1 rfl rfl ?_
          refine X_aload hK (i := 6) 0 kd45_11.2.2.2.2.2.2.2.2.2.2.2 rfl ?_
          refine X_getK hK fl_X5_80_2 hs_b362 (show g283 b362 2 = .int (iI (Y 2 (qq9 z281))) from by have h9 := (fbd365 2 (by decide) (by decide)).1; rw [he364]; exact h9) kd45_12.1 ?_
          refine X_aload hK (i := 6) 0 kd45_12.2.1 rfl ?_
          refine X_getK hK fl_X5_77_2 hs_b362 (show g283 b362 1 = .int (iI (Y 1 (qq9 z281))) from by have h9 := (fbd365 1 (by decide) (by decide)).1; rw [he364]; exact h9) kd45_12.2.2.1 ?_
          refine X_callV hK [.int (iI x1), .int (iI (Y 2 (qq9 z281))), .int (iI (Y 1 (qq9 z281)))] [] lk_X5_134 (m_askedOn _ _ _ _ _ S3 g283 ct x1 (Y 2 (qq9 z281)) (Y 1 (qq9 z281)) sk hg wt ld wg WN HD (qr1 _ _ hs_ct) (by omega) (by omega) (by omega) ((hg283 ct 4 0 0 (qr1 _ _ hs_ct) (by decide)).trans ((hg2 ct 4 0 0 hs_ct (by decide)).trans esk)) (qr1 _ _ hs_sk) ((hg283 ct 4 0 1 (qr1 _ _ hs_ct) (by decide)).trans ((hg2 ct 4 0 1 hs_ct (by decide)).trans ehg)) (qr1 _ _ hs_hg) ((hg283 ct 4 0 2 (qr1 _ _ hs_ct) (by decide)).trans ((hg2 ct 4 0 2 hs_ct (by decide)).trans ewt)) (qr1 _ _ hs_wt) ((hg283 ct 4 0 3 (qr1 _ _ hs_ct) (by decide)).trans ((hg2 ct 4 0 3 hs_ct (by decide)).trans eld)) (qr1 _ _ hs_ld) ((hg283 ct 4 0 4 (qr1 _ _ hs_ct) (by decide)).trans ((hg2 ct 4 0 4 hs_ct (by decide)).trans ewg)) (qr1 _ _ hs_wg) (xWW.m (xWW.m hp6 hg2 qr1 (by decide)) hg283 xLe.rf (by decide)) (xHW.m (xHW.m hp7 hg2 qr1 (by decide)) hg283 xLe.rf (by decide))) (qr1 _ _ hs_ct) ⟨by decide, rfl⟩ kd45_12.2.2.2.1 rfl rfl (by simp [Value.category]) (by decide) (by omega) (by omega) (by decide) (fun r367 S369 g368 pr367 qr367 hg368 => ?_)
          obtain ⟨rfl, rfl, z370, rfl, lz370, uz370, k371⟩ := pr367
          refine X_st [.int (iI z370)] rfl ?_
          have as372 := k371
          rw [(Eq.trans (xv_m hg283 (qr1 _ _ hs_wt) (by decide) (by decide)) (xv_m hg2 hs_wt (by decide) (by decide))), (Eq.trans (xv_m hg283 (qr1 _ _ hs_sk) (by decide) (by decide)) (xv_m hg2 hs_sk (by decide) (by decide))), (Eq.trans (xv_m hg283 (qr1 _ _ hs_ld) (by decide) (by decide)) (xv_m hg2 hs_ld (by decide) (by decide)))] at as372
          clear k371
          refine X_istore hK (i := 4) [(4, .int (iI z370)), (6, .ref b362), (5, .int (iI z281)), (0, .ref a0), (1, .int (iI x1)), (2, .ref a2), (3, .int (iI x3))] kd45_12.2.2.2.2.1 (by decide) rfl ?_
          refine X_iload hK (i := 4) 0 kd45_12.2.2.2.2.2.1 rfl ?_
          refine X_aloadn hK (i := 0) 3 kd45_12.2.2.2.2.2.2.1 rfl rfl ?_
          refine X_aload hK (i := 6) 1 kd45_12.2.2.2.2.2.2.2.1 rfl ?_
          refine X_aloadn hK (i := 2) 5 kd45_12.2.2.2.2.2.2.2.2.1 rfl rfl ?_
          refine X_iload hK (i := 4) 0 kd45_12.2.2.2.2.2.2.2.2.2.1 rfl ?_
          refine X_iloadn hK (i := 3) 6 kd45_12.2.2.2.2.2.2.2.2.2.2.1 rfl rfl ?_
          refine X_callV hK [.ref b362, .ref a2, .int (iI z370), .int (iI x3)] [.int (iI z370)] lk_X5_138 (m_cryB0 _ _ _ _ _ S3 g283 a0 b362 a2 z370 x3 ct ow sk fa (B (Y 0 (qq9 z281))) (Y 0 (qq9 z281)) (YB 1 (Y 0 (qq9 z281))) (YB 2 (Y 0 (qq9 z281))) (YB 3 (Y 0 (qq9 z281))) (YB 4 (Y 0 (qq9 z281))) (YB 5 (Y 0 (qq9 z281))) (Y 1 (qq9 z281)) (Y 2 (qq9 z281)) (Y 3 (qq9 z281)) (Y 4 (qq9 z281)) (Y 5 (qq9 z281)) q284 q285 q286 ln wk wn wf wb ws T (qr1 _ _ hs_a0) hs_b362 (qr1 _ _ hs_a2) (by omega) (by omega) ((hg283 a0 6 0 0 (qr1 _ _ hs_a0) (by decide)).trans ((hg2 a0 6 0 0 hs_a0 (by decide)).trans ect)) (qr1 _ _ hs_ct) ((hg283 ct 4 0 5 (qr1 _ _ hs_ct) (by decide)).trans ((hg2 ct 4 0 5 hs_ct (by decide)).trans eow)) (qr1 _ _ hs_ow) ((hg283 ct 4 0 0 (qr1 _ _ hs_ct) (by decide)).trans ((hg2 ct 4 0 0 hs_ct (by decide)).trans esk)) (qr1 _ _ hs_sk) ((hg283 a0 6 0 4 (qr1 _ _ hs_a0) (by decide)).trans ((hg2 a0 6 0 4 hs_a0 (by decide)).trans efa)) (qr1 _ _ hs_fa) (show g283 b362 0 = .ref (B (Y 0 (qq9 z281))) from by rw [he364]; exact ybd365) ksbd365 (by omega) (show g283 (B (Y 0 (qq9 z281))) 0 = .int (iI (Y 0 (qq9 z281))) from by have h9 := kfbd365 0 (by decide); rw [krbd365.1] at h9; exact h9) (by omega) (show g283 (B (Y 0 (qq9 z281))) 1 = .int (iI (YB 1 (Y 0 (qq9 z281)))) from by have h9 := kfbd365 1 (by decide); exact h9) (by omega) (show g283 (B (Y 0 (qq9 z281))) 2 = .int (iI (YB 2 (Y 0 (qq9 z281)))) from by have h9 := kfbd365 2 (by decide); exact h9) (by omega) (show g283 (B (Y 0 (qq9 z281))) 3 = .int (iI (YB 3 (Y 0 (qq9 z281)))) from by have h9 := kfbd365 3 (by decide); exact h9) (by omega) (show g283 (B (Y 0 (qq9 z281))) 4 = .int (iI (YB 4 (Y 0 (qq9 z281)))) from by have h9 := kfbd365 4 (by decide); exact h9) (by omega) (show g283 (B (Y 0 (qq9 z281))) 5 = .int (iI (YB 5 (Y 0 (qq9 z281)))) from by have h9 := kfbd365 5 (by decide); exact h9) (by omega) (show g283 b362 1 = .int (iI (Y 1 (qq9 z281))) from by have h9 := (fbd365 1 (by decide) (by decide)).1; rw [he364]; exact h9) (by omega) (show g283 b362 2 = .int (iI (Y 2 (qq9 z281))) from by have h9 := (fbd365 2 (by decide) (by decide)).1; rw [he364]; exact h9) (by omega) (show g283 b362 3 = .int (iI (Y 3 (qq9 z281))) from by have h9 := (fbd365 3 (by decide) (by decide)).1; rw [he364]; exact h9) (by omega) (show g283 b362 4 = .int (iI (Y 4 (qq9 z281))) from by have h9 := (fbd365 4 (by decide) (by decide)).1; rw [he364]; exact h9) (by omega) (show g283 b362 5 = .int (iI (Y 5 (qq9 z281))) from by have h9 := (fbd365 5 (by decide) (by decide)).1; rw [he364]; exact h9) (by omega) eq284 (by omega) eq285 (by omega) eq286 (by omega) ((hg283 a2 11 0 1 (qr1 _ _ hs_a2) (by decide)).trans ((hg2 a2 11 0 1 hs_a2 (by decide)).trans eln)) ((hg283 a2 11 0 3 (qr1 _ _ hs_a2) (by decide)).trans ((hg2 a2 11 0 3 hs_a2 (by decide)).trans ewk)) (qr1 _ _ hs_wk) ((hg283 a2 11 0 4 (qr1 _ _ hs_a2) (by decide)).trans ((hg2 a2 11 0 4 hs_a2 (by decide)).trans ewn)) (qr1 _ _ hs_wn) ((hg283 a2 11 0 5 (qr1 _ _ hs_a2) (by decide)).trans ((hg2 a2 11 0 5 hs_a2 (by decide)).trans ewf)) (qr1 _ _ hs_wf) ((hg283 a2 11 0 6 (qr1 _ _ hs_a2) (by decide)).trans ((hg2 a2 11 0 6 hs_a2 (by decide)).trans ewb)) (qr1 _ _ hs_wb) ((hg283 a2 11 0 7 (qr1 _ _ hs_a2) (by decide)).trans ((hg2 a2 11 0 7 hs_a2 (by decide)).trans ews)) (qr1 _ _ hs_ws) (by rw [(Eq.trans (xv_m hg283 (qr1 _ _ hs_wk) (by decide) (by decide)) (xv_m hg2 hs_wk (by decide) (by decide))), (Eq.trans (xv_m hg283 (qr1 _ _ hs_wn) (by decide) (by decide)) (xv_m hg2 hs_wn (by decide) (by decide))), (Eq.trans (xv_m hg283 (qr1 _ _ hs_wf) (by decide) (by decide)) (xv_m hg2 hs_wf (by decide) (by decide))), (Eq.trans (xv_m hg283 (qr1 _ _ hs_wb) (by decide) (by decide)) (xv_m hg2 hs_wb (by decide) (by decide))), (Eq.trans (xv_m hg283 (qr1 _ _ hs_ws) (by decide) (by decide)) (xv_m hg2 hs_ws (by decide) (by decide)))]; exact hp5)) (qr1 _ _ hs_a0) ⟨by decide, rfl⟩ kd45_12.2.2.2.2.2.2.2.2.2.2.2 rfl rfl (by simp [Value.category]) (by decide) (by omega) (by omega) (by decide) (fun r373 S375 g374 pr373 qr373 hg374 => ?_)
          obtain ⟨rfl, z376, rfl, lz376, uz376, k377, k378, k379, k380, k381⟩ := pr373
          refine X_st [.int (iI z376), .int (iI z370)] rfl ?_
          rw [(Eq.trans (xv_m hg283 (qr1 _ _ hs_ow) (by decide) (by decide)) (xv_m hg2 hs_ow (by decide) (by decide))), (Eq.trans (xv_m hg283 (qr1 _ _ hs_sk) (by decide) (by decide)) (xv_m hg2 hs_sk (by decide) (by decide)))] at k377
          rw [(Eq.trans (xv_m hg283 (qr1 _ _ hs_ow) (by decide) (by decide)) (xv_m hg2 hs_ow (by decide) (by decide))), (Eq.trans (xv_m hg283 (qr1 _ _ hs_sk) (by decide) (by decide)) (xv_m hg2 hs_sk (by decide) (by decide)))] at k378
          rw [(Eq.trans (xv_m hg283 (qr1 _ _ hs_ow) (by decide) (by decide)) (xv_m hg2 hs_ow (by decide) (by decide))), (Eq.trans (xv_m hg283 (qr1 _ _ hs_sk) (by decide) (by decide)) (xv_m hg2 hs_sk (by decide) (by decide)))] at k380
          rw [(Eq.trans (xv_m hg283 (qr1 _ _ hs_ow) (by decide) (by decide)) (xv_m hg2 hs_ow (by decide) (by decide))), (Eq.trans (xv_m hg283 (qr1 _ _ hs_sk) (by decide) (by decide)) (xv_m hg2 hs_sk (by decide) (by decide)))] at k381
          have evcr382 : z376 = if (fun k9 => xts9 T ((xF9 YB Y (xv g ow) (xv g sk)) k9) 4) (qq9 z281) = 1 then xmn9 z370 (Y 3 (qq9 z281)) else 0 := k377
          have bbcr382 : 0 ≤ ((Y 3 (qq9 z281) - z376) * xts9 T ((xF9 YB Y (xv g ow) (xv g sk)) (qq9 z281)) 2 / 100) ∧ ((Y 3 (qq9 z281) - z376) * xts9 T ((xF9 YB Y (xv g ow) (xv g sk)) (qq9 z281)) 2 / 100) ≤ 10000 := k378
          have lzcr382 : z376 ≤ z370 := by rw [evcr382]; unfold xmn9; (repeat' split) <;> omega
          have f5cr382 : g374 a0 5 = .int (iI (xwp (q284 + z376))) := k379
          have g5cr382 : -2147483648 ≤ (xwp (q284 + z376)) ∧ (xwp (q284 + z376)) ≤ 2147483647 := xwp.r _
          have f6cr382 : g374 a0 6 = .int (iI (xwp (q285 + ((z376 * xts9 T ((xF9 YB Y (xv g ow) (xv g sk)) (qq9 z281)) 1 + ((Y 3 (qq9 z281) - z376) * xts9 T ((xF9 YB Y (xv g ow) (xv g sk)) (qq9 z281)) 2 / 100) * xts9 T ((xF9 YB Y (xv g ow) (xv g sk)) (qq9 z281)) 0 / 100) - ((Y 3 (qq9 z281) * xts9 T ((xF9 YB Y (xv g ow) (xv g sk)) (qq9 z281)) 0 + 99) / 100))))) := k380
          have g6cr382 : -2147483648 ≤ (xwp (q285 + ((z376 * xts9 T ((xF9 YB Y (xv g ow) (xv g sk)) (qq9 z281)) 1 + ((Y 3 (qq9 z281) - z376) * xts9 T ((xF9 YB Y (xv g ow) (xv g sk)) (qq9 z281)) 2 / 100) * xts9 T ((xF9 YB Y (xv g ow) (xv g sk)) (qq9 z281)) 0 / 100) - ((Y 3 (qq9 z281) * xts9 T ((xF9 YB Y (xv g ow) (xv g sk)) (qq9 z281)) 0 + 99) / 100)))) ∧ (xwp (q285 + ((z376 * xts9 T ((xF9 YB Y (xv g ow) (xv g sk)) (qq9 z281)) 1 + ((Y 3 (qq9 z281) - z376) * xts9 T ((xF9 YB Y (xv g ow) (xv g sk)) (qq9 z281)) 2 / 100) * xts9 T ((xF9 YB Y (xv g ow) (xv g sk)) (qq9 z281)) 0 / 100) - ((Y 3 (qq9 z281) * xts9 T ((xF9 YB Y (xv g ow) (xv g sk)) (qq9 z281)) 0 + 99) / 100)))) ≤ 2147483647 := xwp.r _
          have f7cr382 : g374 a0 7 = .int (iI (xwp (q286 + (Y 3 (qq9 z281) - z376 - ((Y 3 (qq9 z281) - z376) * xts9 T ((xF9 YB Y (xv g ow) (xv g sk)) (qq9 z281)) 2 / 100))))) := k381
          have g7cr382 : -2147483648 ≤ (xwp (q286 + (Y 3 (qq9 z281) - z376 - ((Y 3 (qq9 z281) - z376) * xts9 T ((xF9 YB Y (xv g ow) (xv g sk)) (qq9 z281)) 2 / 100)))) ∧ (xwp (q286 + (Y 3 (qq9 z281) - z376 - ((Y 3 (qq9 z281) - z376) * xts9 T ((xF9 YB Y (xv g ow) (xv g sk)) (qq9 z281)) 2 / 100)))) ≤ 2147483647 := xwp.r _
          have locr382 := xQcr.l0 hq9 ⟨by omega, by omega⟩ hkp9 hpr9 hcd352
          have elcr382 : z370 = xlft nu.toNat (Y 5) (Y 2) (Y 1) (xKY Y YB (xv g ow)) sd352 (fun c9 p9 => xas (WN c9 p9) (xv g wt (xv g sk x1)) (xv g ld (HD p9 x1))) x1 (qq9 z281) := (by rw [locr382.1 (by omega)]; exact as372)
          clear locr382
          refine X_isub hK kd45_13.1 ?_
          refine X_istore hK (i := 4) [(4, .int (iI (z370 - z376))), (6, .ref b362), (5, .int (iI z281)), (0, .ref a0), (1, .int (iI x1)), (2, .ref a2), (3, .int (iI x3))] kd45_13.2.1 (by decide) rfl ?_
          refine X_iinc hK (i := 5) (z := z281) (n := 1) 2 [(5, .int (iI (z281 + 1))), (4, .int (iI (z370 - z376))), (6, .ref b362), (0, .ref a0), (1, .int (iI x1)), (2, .ref a2), (3, .int (iI x3))] kd45_13.2.2.1 rfl (by decide) rfl ?_
          refine X_goto hK 11 kd45_13.2.2.2.1 (by decide) ?_
          refine X_lv [(5, .int (iI (z281 + 1))), (4, .int (iI (z370 - z376))), (0, .ref a0), (1, .int (iI x1)), (2, .ref a2), (3, .int (iI x3))] [0, 1, 3, 4, 5, 6] rfl ?_
          exact ihP349  g374 (xM.tr (xM.tr xM.rf xLe.rf hg283 (by decide)) xLe.rf hg374 (by decide)) (z281 + 1) (by omega) (by omega) (z370 - z376) (by omega) (by omega) (xwp (q284 + z376)) (by omega) (by omega) f5cr382 (xwp (q285 + ((z376 * xts9 T ((xF9 YB Y (xv g ow) (xv g sk)) (qq9 z281)) 1 + ((Y 3 (qq9 z281) - z376) * xts9 T ((xF9 YB Y (xv g ow) (xv g sk)) (qq9 z281)) 2 / 100) * xts9 T ((xF9 YB Y (xv g ow) (xv g sk)) (qq9 z281)) 0 / 100) - ((Y 3 (qq9 z281) * xts9 T ((xF9 YB Y (xv g ow) (xv g sk)) (qq9 z281)) 0 + 99) / 100)))) (by omega) (by omega) f6cr382 (xwp (q286 + (Y 3 (qq9 z281) - z376 - ((Y 3 (qq9 z281) - z376) * xts9 T ((xF9 YB Y (xv g ow) (xv g sk)) (qq9 z281)) 2 / 100)))) (by omega) (by omega) f7cr382 ⟨xup9 qq9 sd352 z281 z376, (xUW.m hUd352 hg374 xLe.rf (by decide)), (xBW.m hBd352 hg374 xLe.rf (by decide)), (xQW.m hQd352 hg374 xLe.rf (by decide)), xQcr.nx hq9 ⟨by omega, by omega⟩ hcd352 elcr382 evcr382, (xqm.nx hq9 ⟨by omega, by omega⟩ h0d352 (by unfold xwh9; rw [if_pos rfl, xup9.at9])), (xqm.nx hq9 ⟨by omega, by omega⟩ h1d352 (by unfold xwh9 xin9 xbk9; rw [if_neg (by decide), if_neg (by decide), xup9.at9])), (xqm.nx hq9 ⟨by omega, by omega⟩ h2d352 (by unfold xwh9 xbk9; rw [if_neg (by decide), if_pos rfl, xup9.at9]))⟩ (by omega) (by omega)
        · refine X_aloadn hK (i := 0) 3 kd45_10.2.2.2.2.2.2.2.2.2.1 rfl rfl ?_
          refine X_getK hK fl_X5_28_6 (qr1 _ _ hs_a0) ((hg283 a0 6 0 3 (qr1 _ _ hs_a0) (by decide)).trans ((hg2 a0 6 0 3 hs_a0 (by decide)).trans ew3)) kd45_10.2.2.2.2.2.2.2.2.2.2.1 ?_
          refine X_iload hK (i := 5) 1 kd45_10.2.2.2.2.2.2.2.2.2.2.2 rfl ?_
          refine X_iconst hK kd45_11.1 ?_
          refine X_isub hK kd45_11.2.1 ?_
          refine X_callV hK [.int (iI (z281 - 1))] [] lk_X5_119 (c_get_200 _ _ _ _ _ S3 g283 w3 (z281 - 1) mq9 (qr1 _ _ hs_w3) (by omega) (by omega) ((hg283 w3 200 0 2 (qr1 _ _ hs_w3) (by decide)).trans emq9) (xLs_mod k4 hg283 (by decide)) (by omega)) (qr1 _ _ hs_w3) ⟨by decide, rfl⟩ kd45_11.2.2.1 rfl rfl (by simp [Value.category]) (by decide) (by omega) (by omega) (by decide) (fun r383 S385 g384 pr383 qr383 hg384 => ?_)
          obtain ⟨rfl, rfl, b386, rfl, hs_b386, k387⟩ := pr383
          refine X_st [.ref b386] rfl ?_
          have rhe388 := hq9.1 (z281 - 1) (by omega) (by omega)
          rw [hn9] at rhe388
          have he388 : b386 = U (qq9 (z281 - 1)) := k387.trans (hQd352.2 (z281 - 1) (by omega) (by omega))
          have hbd389 := hUd352.2.1 (qq9 (z281 - 1)) (by omega) (by omega)
          obtain ⟨abd389, sbd389, ybd389, zbd389, fbd389, rbd389⟩ := hbd389
          unfold xUr at rbd389
          have kbd389 := hBd352.2 (Y 0 (qq9 (z281 - 1))) (by omega) (by omega)
          obtain ⟨kabd389, ksbd389, kfbd389, krbd389⟩ := kbd389
          unfold xBr at krbd389
          refine X_cast hK hs_b386 ⟨by decide, rfl⟩ m_38_23 kd45_11.2.2.2.1 ?_
          refine X_getK hK fl_X5_131_2 hs_b386 (show g283 b386 6 = .int (iI (Y 6 (qq9 (z281 - 1)))) from by have h9 := (fbd389 6 (by decide) (by decide)).1; rw [he388]; exact h9) kd45_11.2.2.2.2.1 ?_
          refine X_aload hK (i := 6) 0 kd45_11.2.2.2.2.2.1 rfl ?_
          refine X_getK hK fl_X5_131_2 hs_b362 (show g283 b362 6 = .int (iI (Y 6 (qq9 z281))) from by have h9 := (fbd365 6 (by decide) (by decide)).1; rw [he364]; exact h9) kd45_11.2.2.2.2.2.2.1 ?_
          refine X_icmp_eq hK 87 (by omega) (by omega) kd45_11.2.2.2.2.2.2.2.1 (by decide) (fun c390 => ?_) (fun c390 => ?_)
          · refine X_iload hK (i := 4) 2 kd45_12.2.2.2.2.2.1 rfl ?_
            refine X_aloadn hK (i := 0) 3 kd45_12.2.2.2.2.2.2.1 rfl rfl ?_
            refine X_aload hK (i := 6) 0 kd45_12.2.2.2.2.2.2.2.1 rfl ?_
            refine X_aloadn hK (i := 2) 5 kd45_12.2.2.2.2.2.2.2.2.1 rfl rfl ?_
            refine X_iload hK (i := 4) 2 kd45_12.2.2.2.2.2.2.2.2.2.1 rfl ?_
            refine X_iloadn hK (i := 3) 6 kd45_12.2.2.2.2.2.2.2.2.2.2.1 rfl rfl ?_
            refine X_callV hK [.ref b362, .ref a2, .int (iI z282), .int (iI x3)] [.int (iI z282)] lk_X5_138 (m_cryB0 _ _ _ _ _ S3 g283 a0 b362 a2 z282 x3 ct ow sk fa (B (Y 0 (qq9 z281))) (Y 0 (qq9 z281)) (YB 1 (Y 0 (qq9 z281))) (YB 2 (Y 0 (qq9 z281))) (YB 3 (Y 0 (qq9 z281))) (YB 4 (Y 0 (qq9 z281))) (YB 5 (Y 0 (qq9 z281))) (Y 1 (qq9 z281)) (Y 2 (qq9 z281)) (Y 3 (qq9 z281)) (Y 4 (qq9 z281)) (Y 5 (qq9 z281)) q284 q285 q286 ln wk wn wf wb ws T (qr1 _ _ hs_a0) hs_b362 (qr1 _ _ hs_a2) (by omega) (by omega) ((hg283 a0 6 0 0 (qr1 _ _ hs_a0) (by decide)).trans ((hg2 a0 6 0 0 hs_a0 (by decide)).trans ect)) (qr1 _ _ hs_ct) ((hg283 ct 4 0 5 (qr1 _ _ hs_ct) (by decide)).trans ((hg2 ct 4 0 5 hs_ct (by decide)).trans eow)) (qr1 _ _ hs_ow) ((hg283 ct 4 0 0 (qr1 _ _ hs_ct) (by decide)).trans ((hg2 ct 4 0 0 hs_ct (by decide)).trans esk)) (qr1 _ _ hs_sk) ((hg283 a0 6 0 4 (qr1 _ _ hs_a0) (by decide)).trans ((hg2 a0 6 0 4 hs_a0 (by decide)).trans efa)) (qr1 _ _ hs_fa) (show g283 b362 0 = .ref (B (Y 0 (qq9 z281))) from by rw [he364]; exact ybd365) ksbd365 (by omega) (show g283 (B (Y 0 (qq9 z281))) 0 = .int (iI (Y 0 (qq9 z281))) from by have h9 := kfbd365 0 (by decide); rw [krbd365.1] at h9; exact h9) (by omega) (show g283 (B (Y 0 (qq9 z281))) 1 = .int (iI (YB 1 (Y 0 (qq9 z281)))) from by have h9 := kfbd365 1 (by decide); exact h9) (by omega) (show g283 (B (Y 0 (qq9 z281))) 2 = .int (iI (YB 2 (Y 0 (qq9 z281)))) from by have h9 := kfbd365 2 (by decide); exact h9) (by omega) (show g283 (B (Y 0 (qq9 z281))) 3 = .int (iI (YB 3 (Y 0 (qq9 z281)))) from by have h9 := kfbd365 3 (by decide); exact h9) (by omega) (show g283 (B (Y 0 (qq9 z281))) 4 = .int (iI (YB 4 (Y 0 (qq9 z281)))) from by have h9 := kfbd365 4 (by decide); exact h9) (by omega) (show g283 (B (Y 0 (qq9 z281))) 5 = .int (iI (YB 5 (Y 0 (qq9 z281)))) from by have h9 := kfbd365 5 (by decide); exact h9) (by omega) (show g283 b362 1 = .int (iI (Y 1 (qq9 z281))) from by have h9 := (fbd365 1 (by decide) (by decide)).1; rw [he364]; exact h9) (by omega) (show g283 b362 2 = .int (iI (Y 2 (qq9 z281))) from by have h9 := (fbd365 2 (by decide) (by decide)).1; rw [he364]; exact h9) (by omega) (show g283 b362 3 = .int (iI (Y 3 (qq9 z281))) from by have h9 := (fbd365 3 (by decide) (by decide)).1; rw [he364]; exact h9) (by omega) (show g283 b362 4 = .int (iI (Y 4 (qq9 z281))) from by have h9 := (fbd365 4 (by decide) (by decide)).1; rw [he364]; exact h9) (by omega) (show g283 b362 5 = .int (iI (Y 5 (qq9 z281))) from by have h9 := (fbd365 5 (by decide) (by decide)).1; rw [he364]; exact h9) (by omega) eq284 (by omega) eq285 (by omega) eq286 (by omega) ((hg283 a2 11 0 1 (qr1 _ _ hs_a2) (by decide)).trans ((hg2 a2 11 0 1 hs_a2 (by decide)).trans eln)) ((hg283 a2 11 0 3 (qr1 _ _ hs_a2) (by decide)).trans ((hg2 a2 11 0 3 hs_a2 (by decide)).trans ewk)) (qr1 _ _ hs_wk) ((hg283 a2 11 0 4 (qr1 _ _ hs_a2) (by decide)).trans ((hg2 a2 11 0 4 hs_a2 (by decide)).trans ewn)) (qr1 _ _ hs_wn) ((hg283 a2 11 0 5 (qr1 _ _ hs_a2) (by decide)).trans ((hg2 a2 11 0 5 hs_a2 (by decide)).trans ewf)) (qr1 _ _ hs_wf) ((hg283 a2 11 0 6 (qr1 _ _ hs_a2) (by decide)).trans ((hg2 a2 11 0 6 hs_a2 (by decide)).trans ewb)) (qr1 _ _ hs_wb) ((hg283 a2 11 0 7 (qr1 _ _ hs_a2) (by decide)).trans ((hg2 a2 11 0 7 hs_a2 (by decide)).trans ews)) (qr1 _ _ hs_ws) (by rw [(Eq.trans (xv_m hg283 (qr1 _ _ hs_wk) (by decide) (by decide)) (xv_m hg2 hs_wk (by decide) (by decide))), (Eq.trans (xv_m hg283 (qr1 _ _ hs_wn) (by decide) (by decide)) (xv_m hg2 hs_wn (by decide) (by decide))), (Eq.trans (xv_m hg283 (qr1 _ _ hs_wf) (by decide) (by decide)) (xv_m hg2 hs_wf (by decide) (by decide))), (Eq.trans (xv_m hg283 (qr1 _ _ hs_wb) (by decide) (by decide)) (xv_m hg2 hs_wb (by decide) (by decide))), (Eq.trans (xv_m hg283 (qr1 _ _ hs_ws) (by decide) (by decide)) (xv_m hg2 hs_ws (by decide) (by decide)))]; exact hp5)) (qr1 _ _ hs_a0) ⟨by decide, rfl⟩ kd45_12.2.2.2.2.2.2.2.2.2.2.2 rfl rfl (by simp [Value.category]) (by decide) (by omega) (by omega) (by decide) (fun r391 S393 g392 pr391 qr391 hg392 => ?_)
            obtain ⟨rfl, z394, rfl, lz394, uz394, k395, k396, k397, k398, k399⟩ := pr391
            refine X_st [.int (iI z394), .int (iI z282)] rfl ?_
            rw [(Eq.trans (xv_m hg283 (qr1 _ _ hs_ow) (by decide) (by decide)) (xv_m hg2 hs_ow (by decide) (by decide))), (Eq.trans (xv_m hg283 (qr1 _ _ hs_sk) (by decide) (by decide)) (xv_m hg2 hs_sk (by decide) (by decide)))] at k395
            rw [(Eq.trans (xv_m hg283 (qr1 _ _ hs_ow) (by decide) (by decide)) (xv_m hg2 hs_ow (by decide) (by decide))), (Eq.trans (xv_m hg283 (qr1 _ _ hs_sk) (by decide) (by decide)) (xv_m hg2 hs_sk (by decide) (by decide)))] at k396
            rw [(Eq.trans (xv_m hg283 (qr1 _ _ hs_ow) (by decide) (by decide)) (xv_m hg2 hs_ow (by decide) (by decide))), (Eq.trans (xv_m hg283 (qr1 _ _ hs_sk) (by decide) (by decide)) (xv_m hg2 hs_sk (by decide) (by decide)))] at k398
            rw [(Eq.trans (xv_m hg283 (qr1 _ _ hs_ow) (by decide) (by decide)) (xv_m hg2 hs_ow (by decide) (by decide))), (Eq.trans (xv_m hg283 (qr1 _ _ hs_sk) (by decide) (by decide)) (xv_m hg2 hs_sk (by decide) (by decide)))] at k399
            have evcr400 : z394 = if (fun k9 => xts9 T ((xF9 YB Y (xv g ow) (xv g sk)) k9) 4) (qq9 z281) = 1 then xmn9 z282 (Y 3 (qq9 z281)) else 0 := k395
            have bbcr400 : 0 ≤ ((Y 3 (qq9 z281) - z394) * xts9 T ((xF9 YB Y (xv g ow) (xv g sk)) (qq9 z281)) 2 / 100) ∧ ((Y 3 (qq9 z281) - z394) * xts9 T ((xF9 YB Y (xv g ow) (xv g sk)) (qq9 z281)) 2 / 100) ≤ 10000 := k396
            have lzcr400 : z394 ≤ z282 := by rw [evcr400]; unfold xmn9; (repeat' split) <;> omega
            have f5cr400 : g392 a0 5 = .int (iI (xwp (q284 + z394))) := k397
            have g5cr400 : -2147483648 ≤ (xwp (q284 + z394)) ∧ (xwp (q284 + z394)) ≤ 2147483647 := xwp.r _
            have f6cr400 : g392 a0 6 = .int (iI (xwp (q285 + ((z394 * xts9 T ((xF9 YB Y (xv g ow) (xv g sk)) (qq9 z281)) 1 + ((Y 3 (qq9 z281) - z394) * xts9 T ((xF9 YB Y (xv g ow) (xv g sk)) (qq9 z281)) 2 / 100) * xts9 T ((xF9 YB Y (xv g ow) (xv g sk)) (qq9 z281)) 0 / 100) - ((Y 3 (qq9 z281) * xts9 T ((xF9 YB Y (xv g ow) (xv g sk)) (qq9 z281)) 0 + 99) / 100))))) := k398
            have g6cr400 : -2147483648 ≤ (xwp (q285 + ((z394 * xts9 T ((xF9 YB Y (xv g ow) (xv g sk)) (qq9 z281)) 1 + ((Y 3 (qq9 z281) - z394) * xts9 T ((xF9 YB Y (xv g ow) (xv g sk)) (qq9 z281)) 2 / 100) * xts9 T ((xF9 YB Y (xv g ow) (xv g sk)) (qq9 z281)) 0 / 100) - ((Y 3 (qq9 z281) * xts9 T ((xF9 YB Y (xv g ow) (xv g sk)) (qq9 z281)) 0 + 99) / 100)))) ∧ (xwp (q285 + ((z394 * xts9 T ((xF9 YB Y (xv g ow) (xv g sk)) (qq9 z281)) 1 + ((Y 3 (qq9 z281) - z394) * xts9 T ((xF9 YB Y (xv g ow) (xv g sk)) (qq9 z281)) 2 / 100) * xts9 T ((xF9 YB Y (xv g ow) (xv g sk)) (qq9 z281)) 0 / 100) - ((Y 3 (qq9 z281) * xts9 T ((xF9 YB Y (xv g ow) (xv g sk)) (qq9 z281)) 0 + 99) / 100)))) ≤ 2147483647 := xwp.r _
            have f7cr400 : g392 a0 7 = .int (iI (xwp (q286 + (Y 3 (qq9 z281) - z394 - ((Y 3 (qq9 z281) - z394) * xts9 T ((xF9 YB Y (xv g ow) (xv g sk)) (qq9 z281)) 2 / 100))))) := k399
            have g7cr400 : -2147483648 ≤ (xwp (q286 + (Y 3 (qq9 z281) - z394 - ((Y 3 (qq9 z281) - z394) * xts9 T ((xF9 YB Y (xv g ow) (xv g sk)) (qq9 z281)) 2 / 100)))) ∧ (xwp (q286 + (Y 3 (qq9 z281) - z394 - ((Y 3 (qq9 z281) - z394) * xts9 T ((xF9 YB Y (xv g ow) (xv g sk)) (qq9 z281)) 2 / 100)))) ≤ 2147483647 := xwp.r _
            have locr400 := xQcr.l0 hq9 ⟨by omega, by omega⟩ hkp9 hpr9 hcd352
            have elcr400 : z282 = xlft nu.toNat (Y 5) (Y 2) (Y 1) (xKY Y YB (xv g ow)) sd352 (fun c9 p9 => xas (WN c9 p9) (xv g wt (xv g sk x1)) (xv g ld (HD p9 x1))) x1 (qq9 z281) := (locr400.2 (by omega) (by omega) (by omega)).symm
            clear locr400
            refine X_isub hK kd45_13.1 ?_
            refine X_istore hK (i := 4) [(4, .int (iI (z282 - z394))), (6, .ref b362), (5, .int (iI z281)), (0, .ref a0), (1, .int (iI x1)), (2, .ref a2), (3, .int (iI x3))] kd45_13.2.1 (by decide) rfl ?_
            refine X_iinc hK (i := 5) (z := z281) (n := 1) 2 [(5, .int (iI (z281 + 1))), (4, .int (iI (z282 - z394))), (6, .ref b362), (0, .ref a0), (1, .int (iI x1)), (2, .ref a2), (3, .int (iI x3))] kd45_13.2.2.1 rfl (by decide) rfl ?_
            refine X_goto hK 11 kd45_13.2.2.2.1 (by decide) ?_
            refine X_lv [(5, .int (iI (z281 + 1))), (4, .int (iI (z282 - z394))), (0, .ref a0), (1, .int (iI x1)), (2, .ref a2), (3, .int (iI x3))] [0, 1, 3, 4, 5, 6] rfl ?_
            exact ihP349  g392 (xM.tr (xM.tr xM.rf xLe.rf hg283 (by decide)) xLe.rf hg392 (by decide)) (z281 + 1) (by omega) (by omega) (z282 - z394) (by omega) (by omega) (xwp (q284 + z394)) (by omega) (by omega) f5cr400 (xwp (q285 + ((z394 * xts9 T ((xF9 YB Y (xv g ow) (xv g sk)) (qq9 z281)) 1 + ((Y 3 (qq9 z281) - z394) * xts9 T ((xF9 YB Y (xv g ow) (xv g sk)) (qq9 z281)) 2 / 100) * xts9 T ((xF9 YB Y (xv g ow) (xv g sk)) (qq9 z281)) 0 / 100) - ((Y 3 (qq9 z281) * xts9 T ((xF9 YB Y (xv g ow) (xv g sk)) (qq9 z281)) 0 + 99) / 100)))) (by omega) (by omega) f6cr400 (xwp (q286 + (Y 3 (qq9 z281) - z394 - ((Y 3 (qq9 z281) - z394) * xts9 T ((xF9 YB Y (xv g ow) (xv g sk)) (qq9 z281)) 2 / 100)))) (by omega) (by omega) f7cr400 ⟨xup9 qq9 sd352 z281 z394, (xUW.m hUd352 hg392 xLe.rf (by decide)), (xBW.m hBd352 hg392 xLe.rf (by decide)), (xQW.m hQd352 hg392 xLe.rf (by decide)), xQcr.nx hq9 ⟨by omega, by omega⟩ hcd352 elcr400 evcr400, (xqm.nx hq9 ⟨by omega, by omega⟩ h0d352 (by unfold xwh9; rw [if_pos rfl, xup9.at9])), (xqm.nx hq9 ⟨by omega, by omega⟩ h1d352 (by unfold xwh9 xin9 xbk9; rw [if_neg (by decide), if_neg (by decide), xup9.at9])), (xqm.nx hq9 ⟨by omega, by omega⟩ h2d352 (by unfold xwh9 xbk9; rw [if_neg (by decide), if_pos rfl, xup9.at9]))⟩ (by omega) (by omega)
          · refine X_aloadn hK (i := 0) 3 kd45_11.2.2.2.2.2.2.2.2.1 rfl rfl ?_
            refine X_getK hK fl_X5_12_6 (qr1 _ _ hs_a0) ((hg283 a0 6 0 0 (qr1 _ _ hs_a0) (by decide)).trans ((hg2 a0 6 0 0 hs_a0 (by decide)).trans ect)) kd45_11.2.2.2.2.2.2.2.2.2.1 ?_
            refine X_iloadn hK (i := 1) 4 kd45_11.2.2.2.2.2.2.2.2.2.2.1 rfl rfl ?_
            refine X_aload hK (i := 6) 0 kd45_11.2.2.2.2.2.2.2.2.2.2.2 rfl ?_
            refine X_getK hK fl_X5_80_2 hs_b362 (show g283 b362 2 = .int (iI (Y 2 (qq9 z281))) from by have h9 := (fbd365 2 (by decide) (by decide)).1; rw [he364]; exact h9) kd45_12.1 ?_
            refine X_aload hK (i := 6) 0 kd45_12.2.1 rfl ?_
            refine X_getK hK fl_X5_77_2 hs_b362 (show g283 b362 1 = .int (iI (Y 1 (qq9 z281))) from by have h9 := (fbd365 1 (by decide) (by decide)).1; rw [he364]; exact h9) kd45_12.2.2.1 ?_
            refine X_callV hK [.int (iI x1), .int (iI (Y 2 (qq9 z281))), .int (iI (Y 1 (qq9 z281)))] [] lk_X5_134 (m_askedOn _ _ _ _ _ S3 g283 ct x1 (Y 2 (qq9 z281)) (Y 1 (qq9 z281)) sk hg wt ld wg WN HD (qr1 _ _ hs_ct) (by omega) (by omega) (by omega) ((hg283 ct 4 0 0 (qr1 _ _ hs_ct) (by decide)).trans ((hg2 ct 4 0 0 hs_ct (by decide)).trans esk)) (qr1 _ _ hs_sk) ((hg283 ct 4 0 1 (qr1 _ _ hs_ct) (by decide)).trans ((hg2 ct 4 0 1 hs_ct (by decide)).trans ehg)) (qr1 _ _ hs_hg) ((hg283 ct 4 0 2 (qr1 _ _ hs_ct) (by decide)).trans ((hg2 ct 4 0 2 hs_ct (by decide)).trans ewt)) (qr1 _ _ hs_wt) ((hg283 ct 4 0 3 (qr1 _ _ hs_ct) (by decide)).trans ((hg2 ct 4 0 3 hs_ct (by decide)).trans eld)) (qr1 _ _ hs_ld) ((hg283 ct 4 0 4 (qr1 _ _ hs_ct) (by decide)).trans ((hg2 ct 4 0 4 hs_ct (by decide)).trans ewg)) (qr1 _ _ hs_wg) (xWW.m (xWW.m hp6 hg2 qr1 (by decide)) hg283 xLe.rf (by decide)) (xHW.m (xHW.m hp7 hg2 qr1 (by decide)) hg283 xLe.rf (by decide))) (qr1 _ _ hs_ct) ⟨by decide, rfl⟩ kd45_12.2.2.2.1 rfl rfl (by simp [Value.category]) (by decide) (by omega) (by omega) (by decide) (fun r401 S403 g402 pr401 qr401 hg402 => ?_)
            obtain ⟨rfl, rfl, z404, rfl, lz404, uz404, k405⟩ := pr401
            refine X_st [.int (iI z404)] rfl ?_
            have as406 := k405
            rw [(Eq.trans (xv_m hg283 (qr1 _ _ hs_wt) (by decide) (by decide)) (xv_m hg2 hs_wt (by decide) (by decide))), (Eq.trans (xv_m hg283 (qr1 _ _ hs_sk) (by decide) (by decide)) (xv_m hg2 hs_sk (by decide) (by decide))), (Eq.trans (xv_m hg283 (qr1 _ _ hs_ld) (by decide) (by decide)) (xv_m hg2 hs_ld (by decide) (by decide)))] at as406
            clear k405
            refine X_istore hK (i := 4) [(4, .int (iI z404)), (6, .ref b362), (5, .int (iI z281)), (0, .ref a0), (1, .int (iI x1)), (2, .ref a2), (3, .int (iI x3))] kd45_12.2.2.2.2.1 (by decide) rfl ?_
            refine X_iload hK (i := 4) 0 kd45_12.2.2.2.2.2.1 rfl ?_
            refine X_aloadn hK (i := 0) 3 kd45_12.2.2.2.2.2.2.1 rfl rfl ?_
            refine X_aload hK (i := 6) 1 kd45_12.2.2.2.2.2.2.2.1 rfl ?_
            refine X_aloadn hK (i := 2) 5 kd45_12.2.2.2.2.2.2.2.2.1 rfl rfl ?_
            refine X_iload hK (i := 4) 0 kd45_12.2.2.2.2.2.2.2.2.2.1 rfl ?_
            refine X_iloadn hK (i := 3) 6 kd45_12.2.2.2.2.2.2.2.2.2.2.1 rfl rfl ?_
            refine X_callV hK [.ref b362, .ref a2, .int (iI z404), .int (iI x3)] [.int (iI z404)] lk_X5_138 (m_cryB0 _ _ _ _ _ S3 g283 a0 b362 a2 z404 x3 ct ow sk fa (B (Y 0 (qq9 z281))) (Y 0 (qq9 z281)) (YB 1 (Y 0 (qq9 z281))) (YB 2 (Y 0 (qq9 z281))) (YB 3 (Y 0 (qq9 z281))) (YB 4 (Y 0 (qq9 z281))) (YB 5 (Y 0 (qq9 z281))) (Y 1 (qq9 z281)) (Y 2 (qq9 z281)) (Y 3 (qq9 z281)) (Y 4 (qq9 z281)) (Y 5 (qq9 z281)) q284 q285 q286 ln wk wn wf wb ws T (qr1 _ _ hs_a0) hs_b362 (qr1 _ _ hs_a2) (by omega) (by omega) ((hg283 a0 6 0 0 (qr1 _ _ hs_a0) (by decide)).trans ((hg2 a0 6 0 0 hs_a0 (by decide)).trans ect)) (qr1 _ _ hs_ct) ((hg283 ct 4 0 5 (qr1 _ _ hs_ct) (by decide)).trans ((hg2 ct 4 0 5 hs_ct (by decide)).trans eow)) (qr1 _ _ hs_ow) ((hg283 ct 4 0 0 (qr1 _ _ hs_ct) (by decide)).trans ((hg2 ct 4 0 0 hs_ct (by decide)).trans esk)) (qr1 _ _ hs_sk) ((hg283 a0 6 0 4 (qr1 _ _ hs_a0) (by decide)).trans ((hg2 a0 6 0 4 hs_a0 (by decide)).trans efa)) (qr1 _ _ hs_fa) (show g283 b362 0 = .ref (B (Y 0 (qq9 z281))) from by rw [he364]; exact ybd365) ksbd365 (by omega) (show g283 (B (Y 0 (qq9 z281))) 0 = .int (iI (Y 0 (qq9 z281))) from by have h9 := kfbd365 0 (by decide); rw [krbd365.1] at h9; exact h9) (by omega) (show g283 (B (Y 0 (qq9 z281))) 1 = .int (iI (YB 1 (Y 0 (qq9 z281)))) from by have h9 := kfbd365 1 (by decide); exact h9) (by omega) (show g283 (B (Y 0 (qq9 z281))) 2 = .int (iI (YB 2 (Y 0 (qq9 z281)))) from by have h9 := kfbd365 2 (by decide); exact h9) (by omega) (show g283 (B (Y 0 (qq9 z281))) 3 = .int (iI (YB 3 (Y 0 (qq9 z281)))) from by have h9 := kfbd365 3 (by decide); exact h9) (by omega) (show g283 (B (Y 0 (qq9 z281))) 4 = .int (iI (YB 4 (Y 0 (qq9 z281)))) from by have h9 := kfbd365 4 (by decide); exact h9) (by omega) (show g283 (B (Y 0 (qq9 z281))) 5 = .int (iI (YB 5 (Y 0 (qq9 z281)))) from by have h9 := kfbd365 5 (by decide); exact h9) (by omega) (show g283 b362 1 = .int (iI (Y 1 (qq9 z281))) from by have h9 := (fbd365 1 (by decide) (by decide)).1; rw [he364]; exact h9) (by omega) (show g283 b362 2 = .int (iI (Y 2 (qq9 z281))) from by have h9 := (fbd365 2 (by decide) (by decide)).1; rw [he364]; exact h9) (by omega) (show g283 b362 3 = .int (iI (Y 3 (qq9 z281))) from by have h9 := (fbd365 3 (by decide) (by decide)).1; rw [he364]; exact h9) (by omega) (show g283 b362 4 = .int (iI (Y 4 (qq9 z281))) from by have h9 := (fbd365 4 (by decide) (by decide)).1; rw [he364]; exact h9) (by omega) (show g283 b362 5 = .int (iI (Y 5 (qq9 z281))) from by have h9 := (fbd365 5 (by decide) (by decide)).1; rw [he364]; exact h9) (by omega) eq284 (by omega) eq285 (by omega) eq286 (by omega) ((hg283 a2 11 0 1 (qr1 _ _ hs_a2) (by decide)).trans ((hg2 a2 11 0 1 hs_a2 (by decide)).trans eln)) ((hg283 a2 11 0 3 (qr1 _ _ hs_a2) (by decide)).trans ((hg2 a2 11 0 3 hs_a2 (by decide)).trans ewk)) (qr1 _ _ hs_wk) ((hg283 a2 11 0 4 (qr1 _ _ hs_a2) (by decide)).trans ((hg2 a2 11 0 4 hs_a2 (by decide)).trans ewn)) (qr1 _ _ hs_wn) ((hg283 a2 11 0 5 (qr1 _ _ hs_a2) (by decide)).trans ((hg2 a2 11 0 5 hs_a2 (by decide)).trans ewf)) (qr1 _ _ hs_wf) ((hg283 a2 11 0 6 (qr1 _ _ hs_a2) (by decide)).trans ((hg2 a2 11 0 6 hs_a2 (by decide)).trans ewb)) (qr1 _ _ hs_wb) ((hg283 a2 11 0 7 (qr1 _ _ hs_a2) (by decide)).trans ((hg2 a2 11 0 7 hs_a2 (by decide)).trans ews)) (qr1 _ _ hs_ws) (by rw [(Eq.trans (xv_m hg283 (qr1 _ _ hs_wk) (by decide) (by decide)) (xv_m hg2 hs_wk (by decide) (by decide))), (Eq.trans (xv_m hg283 (qr1 _ _ hs_wn) (by decide) (by decide)) (xv_m hg2 hs_wn (by decide) (by decide))), (Eq.trans (xv_m hg283 (qr1 _ _ hs_wf) (by decide) (by decide)) (xv_m hg2 hs_wf (by decide) (by decide))), (Eq.trans (xv_m hg283 (qr1 _ _ hs_wb) (by decide) (by decide)) (xv_m hg2 hs_wb (by decide) (by decide))), (Eq.trans (xv_m hg283 (qr1 _ _ hs_ws) (by decide) (by decide)) (xv_m hg2 hs_ws (by decide) (by decide)))]; exact hp5)) (qr1 _ _ hs_a0) ⟨by decide, rfl⟩ kd45_12.2.2.2.2.2.2.2.2.2.2.2 rfl rfl (by simp [Value.category]) (by decide) (by omega) (by omega) (by decide) (fun r407 S409 g408 pr407 qr407 hg408 => ?_)
            obtain ⟨rfl, z410, rfl, lz410, uz410, k411, k412, k413, k414, k415⟩ := pr407
            refine X_st [.int (iI z410), .int (iI z404)] rfl ?_
            rw [(Eq.trans (xv_m hg283 (qr1 _ _ hs_ow) (by decide) (by decide)) (xv_m hg2 hs_ow (by decide) (by decide))), (Eq.trans (xv_m hg283 (qr1 _ _ hs_sk) (by decide) (by decide)) (xv_m hg2 hs_sk (by decide) (by decide)))] at k411
            rw [(Eq.trans (xv_m hg283 (qr1 _ _ hs_ow) (by decide) (by decide)) (xv_m hg2 hs_ow (by decide) (by decide))), (Eq.trans (xv_m hg283 (qr1 _ _ hs_sk) (by decide) (by decide)) (xv_m hg2 hs_sk (by decide) (by decide)))] at k412
            rw [(Eq.trans (xv_m hg283 (qr1 _ _ hs_ow) (by decide) (by decide)) (xv_m hg2 hs_ow (by decide) (by decide))), (Eq.trans (xv_m hg283 (qr1 _ _ hs_sk) (by decide) (by decide)) (xv_m hg2 hs_sk (by decide) (by decide)))] at k414
            rw [(Eq.trans (xv_m hg283 (qr1 _ _ hs_ow) (by decide) (by decide)) (xv_m hg2 hs_ow (by decide) (by decide))), (Eq.trans (xv_m hg283 (qr1 _ _ hs_sk) (by decide) (by decide)) (xv_m hg2 hs_sk (by decide) (by decide)))] at k415
            have evcr416 : z410 = if (fun k9 => xts9 T ((xF9 YB Y (xv g ow) (xv g sk)) k9) 4) (qq9 z281) = 1 then xmn9 z404 (Y 3 (qq9 z281)) else 0 := k411
            have bbcr416 : 0 ≤ ((Y 3 (qq9 z281) - z410) * xts9 T ((xF9 YB Y (xv g ow) (xv g sk)) (qq9 z281)) 2 / 100) ∧ ((Y 3 (qq9 z281) - z410) * xts9 T ((xF9 YB Y (xv g ow) (xv g sk)) (qq9 z281)) 2 / 100) ≤ 10000 := k412
            have lzcr416 : z410 ≤ z404 := by rw [evcr416]; unfold xmn9; (repeat' split) <;> omega
            have f5cr416 : g408 a0 5 = .int (iI (xwp (q284 + z410))) := k413
            have g5cr416 : -2147483648 ≤ (xwp (q284 + z410)) ∧ (xwp (q284 + z410)) ≤ 2147483647 := xwp.r _
            have f6cr416 : g408 a0 6 = .int (iI (xwp (q285 + ((z410 * xts9 T ((xF9 YB Y (xv g ow) (xv g sk)) (qq9 z281)) 1 + ((Y 3 (qq9 z281) - z410) * xts9 T ((xF9 YB Y (xv g ow) (xv g sk)) (qq9 z281)) 2 / 100) * xts9 T ((xF9 YB Y (xv g ow) (xv g sk)) (qq9 z281)) 0 / 100) - ((Y 3 (qq9 z281) * xts9 T ((xF9 YB Y (xv g ow) (xv g sk)) (qq9 z281)) 0 + 99) / 100))))) := k414
            have g6cr416 : -2147483648 ≤ (xwp (q285 + ((z410 * xts9 T ((xF9 YB Y (xv g ow) (xv g sk)) (qq9 z281)) 1 + ((Y 3 (qq9 z281) - z410) * xts9 T ((xF9 YB Y (xv g ow) (xv g sk)) (qq9 z281)) 2 / 100) * xts9 T ((xF9 YB Y (xv g ow) (xv g sk)) (qq9 z281)) 0 / 100) - ((Y 3 (qq9 z281) * xts9 T ((xF9 YB Y (xv g ow) (xv g sk)) (qq9 z281)) 0 + 99) / 100)))) ∧ (xwp (q285 + ((z410 * xts9 T ((xF9 YB Y (xv g ow) (xv g sk)) (qq9 z281)) 1 + ((Y 3 (qq9 z281) - z410) * xts9 T ((xF9 YB Y (xv g ow) (xv g sk)) (qq9 z281)) 2 / 100) * xts9 T ((xF9 YB Y (xv g ow) (xv g sk)) (qq9 z281)) 0 / 100) - ((Y 3 (qq9 z281) * xts9 T ((xF9 YB Y (xv g ow) (xv g sk)) (qq9 z281)) 0 + 99) / 100)))) ≤ 2147483647 := xwp.r _
            have f7cr416 : g408 a0 7 = .int (iI (xwp (q286 + (Y 3 (qq9 z281) - z410 - ((Y 3 (qq9 z281) - z410) * xts9 T ((xF9 YB Y (xv g ow) (xv g sk)) (qq9 z281)) 2 / 100))))) := k415
            have g7cr416 : -2147483648 ≤ (xwp (q286 + (Y 3 (qq9 z281) - z410 - ((Y 3 (qq9 z281) - z410) * xts9 T ((xF9 YB Y (xv g ow) (xv g sk)) (qq9 z281)) 2 / 100)))) ∧ (xwp (q286 + (Y 3 (qq9 z281) - z410 - ((Y 3 (qq9 z281) - z410) * xts9 T ((xF9 YB Y (xv g ow) (xv g sk)) (qq9 z281)) 2 / 100)))) ≤ 2147483647 := xwp.r _
            have locr416 := xQcr.l0 hq9 ⟨by omega, by omega⟩ hkp9 hpr9 hcd352
            have elcr416 : z404 = xlft nu.toNat (Y 5) (Y 2) (Y 1) (xKY Y YB (xv g ow)) sd352 (fun c9 p9 => xas (WN c9 p9) (xv g wt (xv g sk x1)) (xv g ld (HD p9 x1))) x1 (qq9 z281) := (by rw [locr416.1 (by omega)]; exact as406)
            clear locr416
            refine X_isub hK kd45_13.1 ?_
            refine X_istore hK (i := 4) [(4, .int (iI (z404 - z410))), (6, .ref b362), (5, .int (iI z281)), (0, .ref a0), (1, .int (iI x1)), (2, .ref a2), (3, .int (iI x3))] kd45_13.2.1 (by decide) rfl ?_
            refine X_iinc hK (i := 5) (z := z281) (n := 1) 2 [(5, .int (iI (z281 + 1))), (4, .int (iI (z404 - z410))), (6, .ref b362), (0, .ref a0), (1, .int (iI x1)), (2, .ref a2), (3, .int (iI x3))] kd45_13.2.2.1 rfl (by decide) rfl ?_
            refine X_goto hK 11 kd45_13.2.2.2.1 (by decide) ?_
            refine X_lv [(5, .int (iI (z281 + 1))), (4, .int (iI (z404 - z410))), (0, .ref a0), (1, .int (iI x1)), (2, .ref a2), (3, .int (iI x3))] [0, 1, 3, 4, 5, 6] rfl ?_
            exact ihP349  g408 (xM.tr (xM.tr xM.rf xLe.rf hg283 (by decide)) xLe.rf hg408 (by decide)) (z281 + 1) (by omega) (by omega) (z404 - z410) (by omega) (by omega) (xwp (q284 + z410)) (by omega) (by omega) f5cr416 (xwp (q285 + ((z410 * xts9 T ((xF9 YB Y (xv g ow) (xv g sk)) (qq9 z281)) 1 + ((Y 3 (qq9 z281) - z410) * xts9 T ((xF9 YB Y (xv g ow) (xv g sk)) (qq9 z281)) 2 / 100) * xts9 T ((xF9 YB Y (xv g ow) (xv g sk)) (qq9 z281)) 0 / 100) - ((Y 3 (qq9 z281) * xts9 T ((xF9 YB Y (xv g ow) (xv g sk)) (qq9 z281)) 0 + 99) / 100)))) (by omega) (by omega) f6cr416 (xwp (q286 + (Y 3 (qq9 z281) - z410 - ((Y 3 (qq9 z281) - z410) * xts9 T ((xF9 YB Y (xv g ow) (xv g sk)) (qq9 z281)) 2 / 100)))) (by omega) (by omega) f7cr416 ⟨xup9 qq9 sd352 z281 z410, (xUW.m hUd352 hg408 xLe.rf (by decide)), (xBW.m hBd352 hg408 xLe.rf (by decide)), (xQW.m hQd352 hg408 xLe.rf (by decide)), xQcr.nx hq9 ⟨by omega, by omega⟩ hcd352 elcr416 evcr416, (xqm.nx hq9 ⟨by omega, by omega⟩ h0d352 (by unfold xwh9; rw [if_pos rfl, xup9.at9])), (xqm.nx hq9 ⟨by omega, by omega⟩ h1d352 (by unfold xwh9 xin9 xbk9; rw [if_neg (by decide), if_neg (by decide), xup9.at9])), (xqm.nx hq9 ⟨by omega, by omega⟩ h2d352 (by unfold xwh9 xbk9; rw [if_neg (by decide), if_pos rfl, xup9.at9]))⟩ (by omega) (by omega)
  exact P349 ((300 - 0 : Int).toNat + 1) g2 xM.rf 0 (by omega) (by omega) 0 (by omega) (by omega) s5 (by omega) (by omega) ((hg2 a0 6 0 5 hs_a0 (by decide)).trans es5) s6 (by omega) (by omega) ((hg2 a0 6 0 6 hs_a0 (by decide)).trans es6) s7 (by omega) (by omega) ((hg2 a0 6 0 7 hs_a0 (by decide)).trans es7) ⟨fun _ => 0, (xUW.m hp3 hg2 qr1 (by decide)), (xBW.m hp4 hg2 qr1 (by decide)), hwq9, xQcr.z, (by show s5 = xwp (s5 + 0); rw [Int.add_zero, xwp.id (by omega)]), (by show s6 = xwp (s6 + 0); rw [Int.add_zero, xwp.id (by omega)]), (by show s7 = xwp (s7 + 0); rw [Int.add_zero, xwp.id (by omega)])⟩ (by omega) (by omega)

set_option maxHeartbeats 4000000 in
set_option maxRecDepth 100000 in
theorem m_cryDay1 (l : Launch) (D : va_G) (kA : Nat → ClassId) (b0 : Nat) (t0 : Nat → Nat) (S : xT) (g : xG) (a0 : Nat) (x1 : Int) (a2 : Nat) (x3 : Int) (bn : Nat) (bo : Nat) (w3 : Nat) (ct : Nat) (ow : Nat) (nu : Int) (nb : Int) (sk : Nat) (hg : Nat) (wt : Nat) (ld : Nat) (wg : Nat) (fa : Nat) (s5 : Int) (s6 : Int) (s7 : Int) (ln : Int) (wk : Nat) (wn : Nat) (wf : Nat) (wb : Nat) (ws : Nat) (c9 s9 : Nat) (U : Int → Nat) (B : Int → Nat) (Y : Nat → Int → Int) (YB : Nat → Int → Int) (T : List xL3) (WN : Int → Int → Int) (HD : Int → Int → Int) (hs_a0 : S a0 = some (6, 0)) (hx1 : 0 ≤ x1 ∧ x1 ≤ 399) (hs_a2 : S a2 = some (11, 0)) (hx3 : 1 ≤ x3 ∧ x3 ≤ 1) (ebn : g a0 2 = .ref bn) (hs_bn : S bn = some (100, 0)) (ebo : g a0 1 = .ref bo) (hs_bo : S bo = some (0, 0)) (ew3 : g a0 3 = .ref w3) (hs_w3 : S w3 = some (200, 0)) (ect : g a0 0 = .ref ct) (hs_ct : S ct = some (4, 0)) (eow : g ct 5 = .ref ow) (hs_ow : S ow = some (11400, 10)) (hnu : 0 ≤ nu ∧ nu ≤ 200) (enu : g bn 2 = .int (iI nu)) (hnb : 0 ≤ nb ∧ nb ≤ 40) (enb : g bo 2 = .int (iI nb)) (esk : g ct 0 = .ref sk) (hs_sk : S sk = some (10700, 400)) (ehg : g ct 1 = .ref hg) (hs_hg : S hg = some (10904, 4)) (ewt : g ct 2 = .ref wt) (hs_wt : S wt = some (11000, 4)) (eld : g ct 3 = .ref ld) (hs_ld : S ld = some (11100, 6)) (ewg : g ct 4 = .ref wg) (hs_wg : S wg = some (11304, 10)) (efa : g a0 4 = .ref fa) (hs_fa : S fa = some (12000, 12)) (hs5 : (-2147483648) ≤ s5 ∧ s5 ≤ 2147483647) (es5 : g a0 5 = .int (iI s5)) (hs6 : (-2147483648) ≤ s6 ∧ s6 ≤ 2147483647) (es6 : g a0 6 = .int (iI s6)) (hs7 : (-2147483648) ≤ s7 ∧ s7 ≤ 2147483647) (es7 : g a0 7 = .int (iI s7)) (hln : 0 ≤ ln ∧ ln ≤ 16) (eln : g a2 1 = .int (iI ln)) (ewk : g a2 3 = .ref wk) (hs_wk : S wk = some (13600, 16)) (ewn : g a2 4 = .ref wn) (hs_wn : S wn = some (13700, 16)) (ewf : g a2 5 = .ref wf) (hs_wf : S wf = some (13800, 16)) (ewb : g a2 6 = .ref wb) (hs_wb : S wb = some (13900, 16)) (ews : g a2 7 = .ref ws) (hs_ws : S ws = some (14000, 100)) (hp0 : xLs S g) (hp1 : xSi S t0) (hp2 : xQk S g w3 c9 s9) (hp3 : xUW S g bn nu nb U B Y) (hp4 : xBW S g bo nb B YB) (hp5 : xTc9 (xv g wk) (xv g wn) (xv g wf) (xv g wb) (xv g ws) ln T) (hp6 : xWW S g wg WN) (hp7 : xHW S g hg HD) : xMu l yX5_cryDay cX5_cryDay 7 none 8 10 962 191 D kA b0 t0 [(200, 0), (200, 2), (10403, 0), (200, 1), (12000, 0), (6, 5), (6, 7), (6, 6), (2, 8), (2, 9), (2, 10), (1, 5)] [.ref a0, .int (iI x1), .ref a2, .int (iI x3)] S g (fun (r : Option Value) (S1 : xT) (g1 : xG) (dc ds : Nat) => xNw2 S S1 [10403] ∧ r = none ∧ (xLs S1 g1) ∧ (xSi S1 t0) ∧ (xQk S1 g1 w3 (c9 + dc) (s9 + ds)) ∧ (c9 + dc ≤ 9 ∧ s9 + ds ≤ 718) ∧ (∃ (s9 : Int → Int) (Y9 YB9 : Nat → Int → Int), xUW S1 g1 bn nu nb U B Y9 ∧ xBW S1 g1 bo nb B YB9 ∧ xSd nu.toNat (Y 5) (Y 2) (Y 1) (Y 3) (xKY Y YB (xv g ow)) (fun k9 => xts9 T ((xF9 YB Y (xv g ow) (xv g sk)) k9) 4) (fun c9 p9 => xas (WN c9 p9) (xv g wt (xv g sk x1)) (xv g ld (HD p9 x1))) x1 s9 ∧ xCl9 nu.toNat nb T (xF9 YB Y (xv g ow) (xv g sk)) Y YB x1 s9 Y9 YB9 ∧ g1 a0 5 = .int (iI (xwp (s5 + xzm (fun k9 => if Y 5 k9 = x1 then xwh9 0 T (xF9 YB Y (xv g ow) (xv g sk)) (Y 3) s9 k9 else 0) nu.toNat))) ∧ g1 a0 6 = .int (iI (xwp (s6 + xzm (fun k9 => if Y 5 k9 = x1 then xwh9 2 T (xF9 YB Y (xv g ow) (xv g sk)) (Y 3) s9 k9 else 0) nu.toNat))) ∧ g1 a0 7 = .int (iI (xwp (s7 + xzm (fun k9 => if Y 5 k9 = x1 then xwh9 1 T (xF9 YB Y (xv g ow) (xv g sk)) (Y 3) s9 k9 else 0) nu.toNat))))) := by
  refine xEnterUV (by decide) (by simp [lg_sl, Value.category]) [(0, .ref a0), (1, .int (iI x1)), (2, .ref a2), (3, .int (iI x3))] rfl ?_
  intro K E hK hret hS0 _ hini ht
  subst ht
  refine X_aloadn hK (i := 0) 0 kd45_9.2.1 rfl rfl ?_
  refine X_iloadn hK (i := 1) 1 kd45_9.2.2.1 rfl rfl ?_
  refine X_callVU hK [.int (iI x1)] [] lk_X5_127 (m_lineUp _ _ _ _ _ S g a0 x1 bn bo w3 ct ow nu nb c9 s9 U B Y YB hs_a0 (by omega) ebn hs_bn ebo hs_bo ew3 hs_w3 ect hs_ct eow hs_ow (by omega) enu (by omega) enb hp0 hp1 hp2 hp3 hp4) hs_a0 ⟨by decide, rfl⟩ kd45_9.2.2.2.1 rfl rfl (by simp [Value.category]) (by decide) (by omega) (by omega) (by decide) (fun r1 S3 g2 dcr1 dsr1 pr1 qr1 hg2 => ?_)
  obtain ⟨wr1, rfl, k4, k5, k6, k7, k8⟩ := pr1
  refine X_st [] rfl ?_
  obtain ⟨qq9, mq9, emq9, rmq9, hqq9, hwq9⟩ := k8
  have hn9 : ((nu.toNat : Nat) : Int) = nu := by omega
  have hq9 : xQs ((nu.toNat : Nat) : Int) (Y 5) (xKY Y YB (xv g ow)) x1 qq9 mq9 := by rw [hn9]; exact hqq9
  have hkp9 := xUW.kp (ow := xv g ow) hp3 hp4 (by omega)
  have hpr9 := xUW.pr hp3
  refine X_iconst hK kd45_9.2.2.2.2.1 ?_
  refine X_istore hK (i := 4) [(4, .int (iI 0)), (0, .ref a0), (1, .int (iI x1)), (2, .ref a2), (3, .int (iI x3))] kd45_9.2.2.2.2.2.1 (by decide) rfl ?_
  refine X_iconst hK kd45_9.2.2.2.2.2.2.1 ?_
  refine X_istore hK (i := 5) [(5, .int (iI 0)), (4, .int (iI 0)), (0, .ref a0), (1, .int (iI x1)), (2, .ref a2), (3, .int (iI x3))] kd45_9.2.2.2.2.2.2.2.1 (by decide) rfl ?_
  have P439 : ∀ (nP439 : Nat) (g355 : xG) (_ : xM [(12000, 0), (6, 5), (6, 7), (6, 6), (2, 8), (2, 9), (2, 10), (1, 5)] S3 g2 g355) (z353 : Int) (_ : 0 ≤ z353) (_ : z353 ≤ 200) (z354 : Int) (_ : 0 ≤ z354) (_ : z354 ≤ 3600) (q356 : Int) (_ : (-2147483648) ≤ q356) (_ : q356 ≤ 2147483647) (_ : g355 a0 5 = .int (iI q356)) (q357 : Int) (_ : (-2147483648) ≤ q357) (_ : q357 ≤ 2147483647) (_ : g355 a0 6 = .int (iI q357)) (q358 : Int) (_ : (-2147483648) ≤ q358) (_ : q358 ≤ 2147483647) (_ : g355 a0 7 = .int (iI q358)) (_ : ∃ (s9 : Int → Int) (Y9 YB9 : Nat → Int → Int), xUW S3 g355 bn nu nb U B Y9 ∧ xBW S3 g355 bo nb B YB9 ∧ xQW S3 g355 w3 mq9 U qq9 ∧ xQcr nu.toNat (Y 5) (Y 2) (Y 1) (Y 3) (xKY Y YB (xv g ow)) (fun k9 => xts9 T ((xF9 YB Y (xv g ow) (xv g sk)) k9) 4) (fun c9 p9 => xas (WN c9 p9) (xv g wt (xv g sk x1)) (xv g ld (HD p9 x1))) x1 qq9 z353 s9 z354 ∧ xQd nu.toNat nb T (xF9 YB Y (xv g ow) (xv g sk)) Y YB qq9 z353 s9 Y9 YB9 ∧ q356 = xwp (s5 + xzm (fun j9 => xwh9 0 T (xF9 YB Y (xv g ow) (xv g sk)) (Y 3) s9 (qq9 j9)) z353.toNat) ∧ q357 = xwp (s6 + xzm (fun j9 => xwh9 2 T (xF9 YB Y (xv g ow) (xv g sk)) (Y 3) s9 (qq9 j9)) z353.toNat) ∧ q358 = xwp (s7 + xzm (fun j9 => xwh9 1 T (xF9 YB Y (xv g ow) (xv g sk)) (Y 3) s9 (qq9 j9)) z353.toNat)) (_ : z353 ≤ mq9) (_ : 300 - z353 < (nP439 : Int)), X K E 11 [(5, .int (iI z353)), (4, .int (iI z354)), (0, .ref a0), (1, .int (iI x1)), (2, .ref a2), (3, .int (iI x3))] [] S3 g355 (0 + dcr1) (0 + dsr1) := by
    intro nP439
    induction nP439 with
    | zero => intro g355 hg355 z353 lz353 uz353 z354 lz354 uz354 q356 lq356 uq356 eq356 q357 lq357 uq357 eq357 q358 lq358 uq358 eq358 v440 v441 mP439; exact False.elim (by omega)
    | succ nP439 ihP439 =>
      intro g355 hg355 z353 lz353 uz353 z354 lz354 uz354 q356 lq356 uq356 eq356 q357 lq357 uq357 eq357 q358 lq358 uq358 eq358 v440 v441 mP439
      refine X_iload hK (i := 5) 0 kd45_9.2.2.2.2.2.2.2.2.1 rfl ?_
      obtain ⟨sd442, Yd442, YBd442, hUd442, hBd442, hQd442, hcd442, hdd442, h0d442, h1d442, h2d442⟩ := v440
      refine X_aloadn hK (i := 0) 2 kd45_9.2.2.2.2.2.2.2.2.2.1 rfl rfl ?_
      refine X_getK hK fl_X5_28_6 (qr1 _ _ hs_a0) ((hg355 a0 6 0 3 (qr1 _ _ hs_a0) (by decide)).trans ((hg2 a0 6 0 3 hs_a0 (by decide)).trans ew3)) kd45_9.2.2.2.2.2.2.2.2.2.2.1 ?_
      refine X_callV hK [] [.int (iI z353)] lk_X5_45 (c_size_200 _ _ _ _ _ S3 g355 w3 mq9 (qr1 _ _ hs_w3) (by omega) ((hg355 w3 200 0 2 (qr1 _ _ hs_w3) (by decide)).trans emq9) (xLs_mod k4 hg355 (by decide))) (qr1 _ _ hs_w3) ⟨by decide, rfl⟩ kd45_9.2.2.2.2.2.2.2.2.2.2.2 rfl rfl (by simp [Value.category]) (by decide) (by omega) (by omega) (by decide) (fun r443 S445 g444 pr443 qr443 hg444 => ?_)
      obtain ⟨rfl, rfl, z446, rfl, lz446, uz446, k447⟩ := pr443
      refine X_st [.int (iI z446), .int (iI z353)] rfl ?_
      refine X_icmp_ge hK 108 (by omega) (by omega) kd45_10.1 (by decide) (fun c448 => ?_) (fun c448 => ?_)
      · exact hret _ _ _ _ _ _ kd45_13.2.2.2.2.1 ⟨(xNw2.tr xNw2.rf wr1 (by decide)), rfl, (xLs_mod k4 hg355 (by decide)), k5, (xQk.cg (xQk_mod k6 (qr1 _ _ hs_w3) hg355 (by decide)) (by omega) (by omega)), (xQk.le (xQk.cg (xQk_mod k6 (qr1 _ _ hs_w3) hg355 (by decide)) (by omega) (by omega))), (by have ei : z353 = mq9 := (by omega); have c9 := hcd442; have y0 := h0d442; have y1 := h1d442; have y2 := h2d442; rw [ei] at c9 y0 y1 y2; rw [hq9.sum] at y0 y1 y2; have d9 := hdd442; rw [ei] at d9; exact ⟨sd442, Yd442, YBd442, hUd442, hBd442, xQcr.fin hq9 c9, xQd.fin hq9 d9, (by rw [← y0]; exact eq356), (by rw [← y1]; exact eq357), (by rw [← y2]; exact eq358)⟩)⟩ (by omega) (by omega)
      · refine X_aloadn hK (i := 0) 2 kd45_10.2.1 rfl rfl ?_
        refine X_getK hK fl_X5_28_6 (qr1 _ _ hs_a0) ((hg355 a0 6 0 3 (qr1 _ _ hs_a0) (by decide)).trans ((hg2 a0 6 0 3 hs_a0 (by decide)).trans ew3)) kd45_10.2.2.1 ?_
        refine X_iload hK (i := 5) 0 kd45_10.2.2.2.1 rfl ?_
        refine X_callV hK [.int (iI z353)] [] lk_X5_119 (c_get_200 _ _ _ _ _ S3 g355 w3 z353 mq9 (qr1 _ _ hs_w3) (by omega) (by omega) ((hg355 w3 200 0 2 (qr1 _ _ hs_w3) (by decide)).trans emq9) (xLs_mod k4 hg355 (by decide)) (by omega)) (qr1 _ _ hs_w3) ⟨by decide, rfl⟩ kd45_10.2.2.2.2.1 rfl rfl (by simp [Value.category]) (by decide) (by omega) (by omega) (by decide) (fun r449 S451 g450 pr449 qr449 hg450 => ?_)
        obtain ⟨rfl, rfl, b452, rfl, hs_b452, k453⟩ := pr449
        refine X_st [.ref b452] rfl ?_
        have rhe454 := hq9.1 z353 (by omega) (by omega)
        rw [hn9] at rhe454
        have he454 : b452 = U (qq9 z353) := k453.trans (hQd442.2 z353 (by omega) (by omega))
        have hbd455 := hUd442.2.1 (qq9 z353) (by omega) (by omega)
        obtain ⟨abd455, sbd455, ybd455, zbd455, fbd455, rbd455⟩ := hbd455
        unfold xUr at rbd455
        have y0bd455 : Yd442 0 = Y 0 := hdd442.1 0 (by decide)
        have y1bd455 : Yd442 1 = Y 1 := hdd442.1 1 (by decide)
        have y2bd455 : Yd442 2 = Y 2 := hdd442.1 2 (by decide)
        have y3bd455 : Yd442 3 = Y 3 := hdd442.1 3 (by decide)
        have y4bd455 : Yd442 4 = Y 4 := hdd442.1 4 (by decide)
        have y5bd455 : Yd442 5 = Y 5 := hdd442.1 5 (by decide)
        have y6bd455 : Yd442 6 = Y 6 := hdd442.1 6 (by decide)
        have y7bd455 : Yd442 7 = Y 7 := hdd442.1 7 (by decide)
        have v0bd455 : YBd442 0 = YB 0 := hdd442.2.1 0 (by decide)
        have v1bd455 : YBd442 1 = YB 1 := hdd442.2.1 1 (by decide)
        have v2bd455 : YBd442 2 = YB 2 := hdd442.2.1 2 (by decide)
        have v3bd455 : YBd442 3 = YB 3 := hdd442.2.1 3 (by decide)
        have v4bd455 : YBd442 4 = YB 4 := hdd442.2.1 4 (by decide)
        rw [y0bd455] at ybd455 zbd455
        rw [y1bd455, y2bd455, y3bd455, y4bd455, y5bd455, y6bd455] at rbd455
        have kbd455 := hBd442.2 (Y 0 (qq9 z353)) (by omega) (by omega)
        obtain ⟨kabd455, ksbd455, kfbd455, krbd455⟩ := kbd455
        unfold xBr at krbd455
        rw [v0bd455, v1bd455, v2bd455, v3bd455, v4bd455] at krbd455
        refine X_cast hK hs_b452 ⟨by decide, rfl⟩ m_38_23 kd45_10.2.2.2.2.2.1 ?_
        refine X_astore hK (i := 6) [(6, .ref b452), (5, .int (iI z353)), (4, .int (iI z354)), (0, .ref a0), (1, .int (iI x1)), (2, .ref a2), (3, .int (iI x3))] kd45_10.2.2.2.2.2.2.1 (by decide) rfl ?_
        refine X_iload hK (i := 5) 1 kd45_10.2.2.2.2.2.2.2.1 rfl ?_
        refine X_if_eq hK 67 (by omega) kd45_10.2.2.2.2.2.2.2.2.1 (by decide) (fun c456 => ?_) (fun c456 => ?_)
        · refine X_aloadn hK (i := 0) 3 kd45_11.2.2.2.2.2.2.2.2.1 rfl rfl ?_
          refine X_getK hK fl_X5_12_6 (qr1 _ _ hs_a0) ((hg355 a0 6 0 0 (qr1 _ _ hs_a0) (by decide)).trans ((hg2 a0 6 0 0 hs_a0 (by decide)).trans ect)) kd45_11.2.2.2.2.2.2.2.2.2.1 ?_
          refine X_iloadn hK (i := 1) 4 kd45_11.2.2.2.2.2.2.2.2.2.2.1 rfl rfl ?_
          refine X_aload hK (i := 6) 0 kd45_11.2.2.2.2.2.2.2.2.2.2.2 rfl ?_
          refine X_getK hK fl_X5_80_2 hs_b452 (show g355 b452 2 = .int (iI (Y 2 (qq9 z353))) from by have h9 := (fbd455 2 (by decide) (by decide)).1; rw [y2bd455] at h9; rw [he454]; exact h9) kd45_12.1 ?_
          refine X_aload hK (i := 6) 0 kd45_12.2.1 rfl ?_
          refine X_getK hK fl_X5_77_2 hs_b452 (show g355 b452 1 = .int (iI (Y 1 (qq9 z353))) from by have h9 := (fbd455 1 (by decide) (by decide)).1; rw [y1bd455] at h9; rw [he454]; exact h9) kd45_12.2.2.1 ?_
          refine X_callV hK [.int (iI x1), .int (iI (Y 2 (qq9 z353))), .int (iI (Y 1 (qq9 z353)))] [] lk_X5_134 (m_askedOn _ _ _ _ _ S3 g355 ct x1 (Y 2 (qq9 z353)) (Y 1 (qq9 z353)) sk hg wt ld wg WN HD (qr1 _ _ hs_ct) (by omega) (by omega) (by omega) ((hg355 ct 4 0 0 (qr1 _ _ hs_ct) (by decide)).trans ((hg2 ct 4 0 0 hs_ct (by decide)).trans esk)) (qr1 _ _ hs_sk) ((hg355 ct 4 0 1 (qr1 _ _ hs_ct) (by decide)).trans ((hg2 ct 4 0 1 hs_ct (by decide)).trans ehg)) (qr1 _ _ hs_hg) ((hg355 ct 4 0 2 (qr1 _ _ hs_ct) (by decide)).trans ((hg2 ct 4 0 2 hs_ct (by decide)).trans ewt)) (qr1 _ _ hs_wt) ((hg355 ct 4 0 3 (qr1 _ _ hs_ct) (by decide)).trans ((hg2 ct 4 0 3 hs_ct (by decide)).trans eld)) (qr1 _ _ hs_ld) ((hg355 ct 4 0 4 (qr1 _ _ hs_ct) (by decide)).trans ((hg2 ct 4 0 4 hs_ct (by decide)).trans ewg)) (qr1 _ _ hs_wg) (xWW.m (xWW.m hp6 hg2 qr1 (by decide)) hg355 xLe.rf (by decide)) (xHW.m (xHW.m hp7 hg2 qr1 (by decide)) hg355 xLe.rf (by decide))) (qr1 _ _ hs_ct) ⟨by decide, rfl⟩ kd45_12.2.2.2.1 rfl rfl (by simp [Value.category]) (by decide) (by omega) (by omega) (by decide) (fun r457 S459 g458 pr457 qr457 hg458 => ?_)
          obtain ⟨rfl, rfl, z460, rfl, lz460, uz460, k461⟩ := pr457
          refine X_st [.int (iI z460)] rfl ?_
          have as462 := k461
          rw [(Eq.trans (xv_m hg355 (qr1 _ _ hs_wt) (by decide) (by decide)) (xv_m hg2 hs_wt (by decide) (by decide))), (Eq.trans (xv_m hg355 (qr1 _ _ hs_sk) (by decide) (by decide)) (xv_m hg2 hs_sk (by decide) (by decide))), (Eq.trans (xv_m hg355 (qr1 _ _ hs_ld) (by decide) (by decide)) (xv_m hg2 hs_ld (by decide) (by decide)))] at as462
          clear k461
          refine X_istore hK (i := 4) [(4, .int (iI z460)), (6, .ref b452), (5, .int (iI z353)), (0, .ref a0), (1, .int (iI x1)), (2, .ref a2), (3, .int (iI x3))] kd45_12.2.2.2.2.1 (by decide) rfl ?_
          refine X_iload hK (i := 4) 0 kd45_12.2.2.2.2.2.1 rfl ?_
          refine X_aloadn hK (i := 0) 3 kd45_12.2.2.2.2.2.2.1 rfl rfl ?_
          refine X_aload hK (i := 6) 1 kd45_12.2.2.2.2.2.2.2.1 rfl ?_
          refine X_aloadn hK (i := 2) 5 kd45_12.2.2.2.2.2.2.2.2.1 rfl rfl ?_
          refine X_iload hK (i := 4) 0 kd45_12.2.2.2.2.2.2.2.2.2.1 rfl ?_
          refine X_iloadn hK (i := 3) 6 kd45_12.2.2.2.2.2.2.2.2.2.2.1 rfl rfl ?_
          refine X_callV hK [.ref b452, .ref a2, .int (iI z460), .int (iI x3)] [.int (iI z460)] lk_X5_138 (m_cryB1 _ _ _ _ _ S3 g355 a0 b452 a2 z460 x3 ct ow sk fa (B (Y 0 (qq9 z353))) (Y 0 (qq9 z353)) (YB 1 (Y 0 (qq9 z353))) (YB 2 (Y 0 (qq9 z353))) (YB 3 (Y 0 (qq9 z353))) (YB 4 (Y 0 (qq9 z353))) (YBd442 5 (Y 0 (qq9 z353))) (Y 1 (qq9 z353)) (Y 2 (qq9 z353)) (Y 3 (qq9 z353)) (Y 4 (qq9 z353)) (Y 5 (qq9 z353)) q356 q357 q358 ln wk wn wf wb ws T (qr1 _ _ hs_a0) hs_b452 (qr1 _ _ hs_a2) (by omega) (by omega) ((hg355 a0 6 0 0 (qr1 _ _ hs_a0) (by decide)).trans ((hg2 a0 6 0 0 hs_a0 (by decide)).trans ect)) (qr1 _ _ hs_ct) ((hg355 ct 4 0 5 (qr1 _ _ hs_ct) (by decide)).trans ((hg2 ct 4 0 5 hs_ct (by decide)).trans eow)) (qr1 _ _ hs_ow) ((hg355 ct 4 0 0 (qr1 _ _ hs_ct) (by decide)).trans ((hg2 ct 4 0 0 hs_ct (by decide)).trans esk)) (qr1 _ _ hs_sk) ((hg355 a0 6 0 4 (qr1 _ _ hs_a0) (by decide)).trans ((hg2 a0 6 0 4 hs_a0 (by decide)).trans efa)) (qr1 _ _ hs_fa) (show g355 b452 0 = .ref (B (Y 0 (qq9 z353))) from by rw [he454]; exact ybd455) ksbd455 (by omega) (show g355 (B (Y 0 (qq9 z353))) 0 = .int (iI (Y 0 (qq9 z353))) from by have h9 := kfbd455 0 (by decide); rw [v0bd455] at h9; rw [krbd455.1] at h9; exact h9) (by omega) (show g355 (B (Y 0 (qq9 z353))) 1 = .int (iI (YB 1 (Y 0 (qq9 z353)))) from by have h9 := kfbd455 1 (by decide); rw [v1bd455] at h9; exact h9) (by omega) (show g355 (B (Y 0 (qq9 z353))) 2 = .int (iI (YB 2 (Y 0 (qq9 z353)))) from by have h9 := kfbd455 2 (by decide); rw [v2bd455] at h9; exact h9) (by omega) (show g355 (B (Y 0 (qq9 z353))) 3 = .int (iI (YB 3 (Y 0 (qq9 z353)))) from by have h9 := kfbd455 3 (by decide); rw [v3bd455] at h9; exact h9) (by omega) (show g355 (B (Y 0 (qq9 z353))) 4 = .int (iI (YB 4 (Y 0 (qq9 z353)))) from by have h9 := kfbd455 4 (by decide); rw [v4bd455] at h9; exact h9) (by omega) (show g355 (B (Y 0 (qq9 z353))) 5 = .int (iI (YBd442 5 (Y 0 (qq9 z353)))) from by have h9 := kfbd455 5 (by decide); exact h9) (by omega) (show g355 b452 1 = .int (iI (Y 1 (qq9 z353))) from by have h9 := (fbd455 1 (by decide) (by decide)).1; rw [y1bd455] at h9; rw [he454]; exact h9) (by omega) (show g355 b452 2 = .int (iI (Y 2 (qq9 z353))) from by have h9 := (fbd455 2 (by decide) (by decide)).1; rw [y2bd455] at h9; rw [he454]; exact h9) (by omega) (show g355 b452 3 = .int (iI (Y 3 (qq9 z353))) from by have h9 := (fbd455 3 (by decide) (by decide)).1; rw [y3bd455] at h9; rw [he454]; exact h9) (by omega) (show g355 b452 4 = .int (iI (Y 4 (qq9 z353))) from by have h9 := (fbd455 4 (by decide) (by decide)).1; rw [y4bd455] at h9; rw [he454]; exact h9) (by omega) (show g355 b452 5 = .int (iI (Y 5 (qq9 z353))) from by have h9 := (fbd455 5 (by decide) (by decide)).1; rw [y5bd455] at h9; rw [he454]; exact h9) (by omega) eq356 (by omega) eq357 (by omega) eq358 (by omega) ((hg355 a2 11 0 1 (qr1 _ _ hs_a2) (by decide)).trans ((hg2 a2 11 0 1 hs_a2 (by decide)).trans eln)) ((hg355 a2 11 0 3 (qr1 _ _ hs_a2) (by decide)).trans ((hg2 a2 11 0 3 hs_a2 (by decide)).trans ewk)) (qr1 _ _ hs_wk) ((hg355 a2 11 0 4 (qr1 _ _ hs_a2) (by decide)).trans ((hg2 a2 11 0 4 hs_a2 (by decide)).trans ewn)) (qr1 _ _ hs_wn) ((hg355 a2 11 0 5 (qr1 _ _ hs_a2) (by decide)).trans ((hg2 a2 11 0 5 hs_a2 (by decide)).trans ewf)) (qr1 _ _ hs_wf) ((hg355 a2 11 0 6 (qr1 _ _ hs_a2) (by decide)).trans ((hg2 a2 11 0 6 hs_a2 (by decide)).trans ewb)) (qr1 _ _ hs_wb) ((hg355 a2 11 0 7 (qr1 _ _ hs_a2) (by decide)).trans ((hg2 a2 11 0 7 hs_a2 (by decide)).trans ews)) (qr1 _ _ hs_ws) (by rw [(Eq.trans (xv_m hg355 (qr1 _ _ hs_wk) (by decide) (by decide)) (xv_m hg2 hs_wk (by decide) (by decide))), (Eq.trans (xv_m hg355 (qr1 _ _ hs_wn) (by decide) (by decide)) (xv_m hg2 hs_wn (by decide) (by decide))), (Eq.trans (xv_m hg355 (qr1 _ _ hs_wf) (by decide) (by decide)) (xv_m hg2 hs_wf (by decide) (by decide))), (Eq.trans (xv_m hg355 (qr1 _ _ hs_wb) (by decide) (by decide)) (xv_m hg2 hs_wb (by decide) (by decide))), (Eq.trans (xv_m hg355 (qr1 _ _ hs_ws) (by decide) (by decide)) (xv_m hg2 hs_ws (by decide) (by decide)))]; exact hp5)) (qr1 _ _ hs_a0) ⟨by decide, rfl⟩ kd45_12.2.2.2.2.2.2.2.2.2.2.2 rfl rfl (by simp [Value.category]) (by decide) (by omega) (by omega) (by decide) (fun r463 S465 g464 pr463 qr463 hg464 => ?_)
          obtain ⟨rfl, z466, rfl, lz466, uz466, k467, k468, k469, k470, k471, k472, k473, k474, k475, k476, k477⟩ := pr463
          refine X_st [.int (iI z466), .int (iI z460)] rfl ?_
          rw [(Eq.trans (xv_m hg355 (qr1 _ _ hs_ow) (by decide) (by decide)) (xv_m hg2 hs_ow (by decide) (by decide))), (Eq.trans (xv_m hg355 (qr1 _ _ hs_sk) (by decide) (by decide)) (xv_m hg2 hs_sk (by decide) (by decide)))] at k467
          rw [(Eq.trans (xv_m hg355 (qr1 _ _ hs_ow) (by decide) (by decide)) (xv_m hg2 hs_ow (by decide) (by decide))), (Eq.trans (xv_m hg355 (qr1 _ _ hs_sk) (by decide) (by decide)) (xv_m hg2 hs_sk (by decide) (by decide)))] at k468
          rw [(Eq.trans (xv_m hg355 (qr1 _ _ hs_ow) (by decide) (by decide)) (xv_m hg2 hs_ow (by decide) (by decide))), (Eq.trans (xv_m hg355 (qr1 _ _ hs_sk) (by decide) (by decide)) (xv_m hg2 hs_sk (by decide) (by decide)))] at k470
          rw [(Eq.trans (xv_m hg355 (qr1 _ _ hs_ow) (by decide) (by decide)) (xv_m hg2 hs_ow (by decide) (by decide))), (Eq.trans (xv_m hg355 (qr1 _ _ hs_sk) (by decide) (by decide)) (xv_m hg2 hs_sk (by decide) (by decide)))] at k471
          rw [(Eq.trans (xv_m hg355 (qr1 _ _ hs_ow) (by decide) (by decide)) (xv_m hg2 hs_ow (by decide) (by decide))), (Eq.trans (xv_m hg355 (qr1 _ _ hs_sk) (by decide) (by decide)) (xv_m hg2 hs_sk (by decide) (by decide)))] at k473
          rw [(Eq.trans (xv_m hg355 (qr1 _ _ hs_ow) (by decide) (by decide)) (xv_m hg2 hs_ow (by decide) (by decide))), (Eq.trans (xv_m hg355 (qr1 _ _ hs_sk) (by decide) (by decide)) (xv_m hg2 hs_sk (by decide) (by decide)))] at k474
          rw [(Eq.trans (xv_m hg355 (qr1 _ _ hs_ow) (by decide) (by decide)) (xv_m hg2 hs_ow (by decide) (by decide))), (Eq.trans (xv_m hg355 (qr1 _ _ hs_sk) (by decide) (by decide)) (xv_m hg2 hs_sk (by decide) (by decide)))] at k475
          have evcr478 : z466 = if (fun k9 => xts9 T ((xF9 YB Y (xv g ow) (xv g sk)) k9) 4) (qq9 z353) = 1 then xmn9 z460 (Y 3 (qq9 z353)) else 0 := k467
          have bbcr478 : 0 ≤ ((Y 3 (qq9 z353) - z466) * xts9 T ((xF9 YB Y (xv g ow) (xv g sk)) (qq9 z353)) 2 / 100) ∧ ((Y 3 (qq9 z353) - z466) * xts9 T ((xF9 YB Y (xv g ow) (xv g sk)) (qq9 z353)) 2 / 100) ≤ 10000 := k468
          have lzcr478 : z466 ≤ z460 := by rw [evcr478]; unfold xmn9; (repeat' split) <;> omega
          have f5cr478 : g464 a0 5 = .int (iI (xwp (q356 + z466))) := k469
          have g5cr478 : -2147483648 ≤ (xwp (q356 + z466)) ∧ (xwp (q356 + z466)) ≤ 2147483647 := xwp.r _
          have f6cr478 : g464 a0 6 = .int (iI (xwp (q357 + ((z466 * xts9 T ((xF9 YB Y (xv g ow) (xv g sk)) (qq9 z353)) 1 + ((Y 3 (qq9 z353) - z466) * xts9 T ((xF9 YB Y (xv g ow) (xv g sk)) (qq9 z353)) 2 / 100) * xts9 T ((xF9 YB Y (xv g ow) (xv g sk)) (qq9 z353)) 0 / 100) - ((Y 3 (qq9 z353) * xts9 T ((xF9 YB Y (xv g ow) (xv g sk)) (qq9 z353)) 0 + 99) / 100))))) := k470
          have g6cr478 : -2147483648 ≤ (xwp (q357 + ((z466 * xts9 T ((xF9 YB Y (xv g ow) (xv g sk)) (qq9 z353)) 1 + ((Y 3 (qq9 z353) - z466) * xts9 T ((xF9 YB Y (xv g ow) (xv g sk)) (qq9 z353)) 2 / 100) * xts9 T ((xF9 YB Y (xv g ow) (xv g sk)) (qq9 z353)) 0 / 100) - ((Y 3 (qq9 z353) * xts9 T ((xF9 YB Y (xv g ow) (xv g sk)) (qq9 z353)) 0 + 99) / 100)))) ∧ (xwp (q357 + ((z466 * xts9 T ((xF9 YB Y (xv g ow) (xv g sk)) (qq9 z353)) 1 + ((Y 3 (qq9 z353) - z466) * xts9 T ((xF9 YB Y (xv g ow) (xv g sk)) (qq9 z353)) 2 / 100) * xts9 T ((xF9 YB Y (xv g ow) (xv g sk)) (qq9 z353)) 0 / 100) - ((Y 3 (qq9 z353) * xts9 T ((xF9 YB Y (xv g ow) (xv g sk)) (qq9 z353)) 0 + 99) / 100)))) ≤ 2147483647 := xwp.r _
          have f7cr478 : g464 a0 7 = .int (iI (xwp (q358 + (Y 3 (qq9 z353) - z466 - ((Y 3 (qq9 z353) - z466) * xts9 T ((xF9 YB Y (xv g ow) (xv g sk)) (qq9 z353)) 2 / 100))))) := k471
          have g7cr478 : -2147483648 ≤ (xwp (q358 + (Y 3 (qq9 z353) - z466 - ((Y 3 (qq9 z353) - z466) * xts9 T ((xF9 YB Y (xv g ow) (xv g sk)) (qq9 z353)) 2 / 100)))) ∧ (xwp (q358 + (Y 3 (qq9 z353) - z466 - ((Y 3 (qq9 z353) - z466) * xts9 T ((xF9 YB Y (xv g ow) (xv g sk)) (qq9 z353)) 2 / 100)))) ≤ 2147483647 := xwp.r _
          have locr478 := xQcr.l0 hq9 ⟨by omega, by omega⟩ hkp9 hpr9 hcd442
          have elcr478 : z460 = xlft nu.toNat (Y 5) (Y 2) (Y 1) (xKY Y YB (xv g ow)) sd442 (fun c9 p9 => xas (WN c9 p9) (xv g wt (xv g sk x1)) (xv g ld (HD p9 x1))) x1 (qq9 z353) := (by rw [locr478.1 (by omega)]; exact as462)
          clear locr478
          have U8cr478 : xUW S3 g464 bn nu nb U B (xyu (xyu (xyu Yd442 8 (qq9 z353) z466) 9 (qq9 z353) ((Y 3 (qq9 z353) - z466) * xts9 T ((xF9 YB Y (xv g ow) (xv g sk)) (qq9 z353)) 2 / 100)) 10 (qq9 z353) (Y 3 (qq9 z353) - z466 - ((Y 3 (qq9 z353) - z466) * xts9 T ((xF9 YB Y (xv g ow) (xv g sk)) (qq9 z353)) 2 / 100))) := xUW.cry hUd442 hg464 (by rw [← he454]; exact k476) (by omega) (by rw [← he454]; exact k472) (by rw [← he454]; exact k473) (by rw [← he454]; exact k474) (by omega) (by omega) (by omega) (by decide)
          have B8cr478 : xBW S3 g464 bo nb B (xyu YBd442 5 (Y 0 (qq9 z353)) (xwp (YBd442 5 (Y 0 (qq9 z353)) + (z466 * xts9 T ((xF9 YB Y (xv g ow) (xv g sk)) (qq9 z353)) 1 + ((Y 3 (qq9 z353) - z466) * xts9 T ((xF9 YB Y (xv g ow) (xv g sk)) (qq9 z353)) 2 / 100) * xts9 T ((xF9 YB Y (xv g ow) (xv g sk)) (qq9 z353)) 0 / 100)))) := xBW.cry hBd442 (by omega) hg464 k477 (by omega) k475 (xwp.r _) (by decide)
          refine X_isub hK kd45_13.1 ?_
          refine X_istore hK (i := 4) [(4, .int (iI (z460 - z466))), (6, .ref b452), (5, .int (iI z353)), (0, .ref a0), (1, .int (iI x1)), (2, .ref a2), (3, .int (iI x3))] kd45_13.2.1 (by decide) rfl ?_
          refine X_iinc hK (i := 5) (z := z353) (n := 1) 2 [(5, .int (iI (z353 + 1))), (4, .int (iI (z460 - z466))), (6, .ref b452), (0, .ref a0), (1, .int (iI x1)), (2, .ref a2), (3, .int (iI x3))] kd45_13.2.2.1 rfl (by decide) rfl ?_
          refine X_goto hK 11 kd45_13.2.2.2.1 (by decide) ?_
          refine X_lv [(5, .int (iI (z353 + 1))), (4, .int (iI (z460 - z466))), (0, .ref a0), (1, .int (iI x1)), (2, .ref a2), (3, .int (iI x3))] [0, 1, 3, 4, 5, 6] rfl ?_
          exact ihP439  g464 (xM.tr (xM.tr xM.rf xLe.rf hg355 (by decide)) xLe.rf hg464 (by decide)) (z353 + 1) (by omega) (by omega) (z460 - z466) (by omega) (by omega) (xwp (q356 + z466)) (by omega) (by omega) f5cr478 (xwp (q357 + ((z466 * xts9 T ((xF9 YB Y (xv g ow) (xv g sk)) (qq9 z353)) 1 + ((Y 3 (qq9 z353) - z466) * xts9 T ((xF9 YB Y (xv g ow) (xv g sk)) (qq9 z353)) 2 / 100) * xts9 T ((xF9 YB Y (xv g ow) (xv g sk)) (qq9 z353)) 0 / 100) - ((Y 3 (qq9 z353) * xts9 T ((xF9 YB Y (xv g ow) (xv g sk)) (qq9 z353)) 0 + 99) / 100)))) (by omega) (by omega) f6cr478 (xwp (q358 + (Y 3 (qq9 z353) - z466 - ((Y 3 (qq9 z353) - z466) * xts9 T ((xF9 YB Y (xv g ow) (xv g sk)) (qq9 z353)) 2 / 100)))) (by omega) (by omega) f7cr478 ⟨xup9 qq9 sd442 z353 z466, _, _, U8cr478, B8cr478, (xQW.m hQd442 hg464 xLe.rf (by decide)), xQcr.nx hq9 ⟨by omega, by omega⟩ hcd442 elcr478 evcr478, xQd.nx hq9 ⟨by omega, by omega⟩ hdd442 rfl rfl rfl rfl, (xqm.nx hq9 ⟨by omega, by omega⟩ h0d442 (by unfold xwh9; rw [if_pos rfl, xup9.at9])), (xqm.nx hq9 ⟨by omega, by omega⟩ h1d442 (by unfold xwh9 xin9 xbk9; rw [if_neg (by decide), if_neg (by decide), xup9.at9])), (xqm.nx hq9 ⟨by omega, by omega⟩ h2d442 (by unfold xwh9 xbk9; rw [if_neg (by decide), if_pos rfl, xup9.at9]))⟩ (by omega) (by omega)
        · refine X_aloadn hK (i := 0) 3 kd45_10.2.2.2.2.2.2.2.2.2.1 rfl rfl ?_
          refine X_getK hK fl_X5_28_6 (qr1 _ _ hs_a0) ((hg355 a0 6 0 3 (qr1 _ _ hs_a0) (by decide)).trans ((hg2 a0 6 0 3 hs_a0 (by decide)).trans ew3)) kd45_10.2.2.2.2.2.2.2.2.2.2.1 ?_
          refine X_iload hK (i := 5) 1 kd45_10.2.2.2.2.2.2.2.2.2.2.2 rfl ?_
          refine X_iconst hK kd45_11.1 ?_
          refine X_isub hK kd45_11.2.1 ?_
          refine X_callV hK [.int (iI (z353 - 1))] [] lk_X5_119 (c_get_200 _ _ _ _ _ S3 g355 w3 (z353 - 1) mq9 (qr1 _ _ hs_w3) (by omega) (by omega) ((hg355 w3 200 0 2 (qr1 _ _ hs_w3) (by decide)).trans emq9) (xLs_mod k4 hg355 (by decide)) (by omega)) (qr1 _ _ hs_w3) ⟨by decide, rfl⟩ kd45_11.2.2.1 rfl rfl (by simp [Value.category]) (by decide) (by omega) (by omega) (by decide) (fun r479 S481 g480 pr479 qr479 hg480 => ?_)
          obtain ⟨rfl, rfl, b482, rfl, hs_b482, k483⟩ := pr479
          refine X_st [.ref b482] rfl ?_
          have rhe484 := hq9.1 (z353 - 1) (by omega) (by omega)
          rw [hn9] at rhe484
          have he484 : b482 = U (qq9 (z353 - 1)) := k483.trans (hQd442.2 (z353 - 1) (by omega) (by omega))
          have hbd485 := hUd442.2.1 (qq9 (z353 - 1)) (by omega) (by omega)
          obtain ⟨abd485, sbd485, ybd485, zbd485, fbd485, rbd485⟩ := hbd485
          unfold xUr at rbd485
          have y0bd485 : Yd442 0 = Y 0 := hdd442.1 0 (by decide)
          have y1bd485 : Yd442 1 = Y 1 := hdd442.1 1 (by decide)
          have y2bd485 : Yd442 2 = Y 2 := hdd442.1 2 (by decide)
          have y3bd485 : Yd442 3 = Y 3 := hdd442.1 3 (by decide)
          have y4bd485 : Yd442 4 = Y 4 := hdd442.1 4 (by decide)
          have y5bd485 : Yd442 5 = Y 5 := hdd442.1 5 (by decide)
          have y6bd485 : Yd442 6 = Y 6 := hdd442.1 6 (by decide)
          have y7bd485 : Yd442 7 = Y 7 := hdd442.1 7 (by decide)
          have v0bd485 : YBd442 0 = YB 0 := hdd442.2.1 0 (by decide)
          have v1bd485 : YBd442 1 = YB 1 := hdd442.2.1 1 (by decide)
          have v2bd485 : YBd442 2 = YB 2 := hdd442.2.1 2 (by decide)
          have v3bd485 : YBd442 3 = YB 3 := hdd442.2.1 3 (by decide)
          have v4bd485 : YBd442 4 = YB 4 := hdd442.2.1 4 (by decide)
          rw [y0bd485] at ybd485 zbd485
          rw [y1bd485, y2bd485, y3bd485, y4bd485, y5bd485, y6bd485] at rbd485
          have kbd485 := hBd442.2 (Y 0 (qq9 (z353 - 1))) (by omega) (by omega)
          obtain ⟨kabd485, ksbd485, kfbd485, krbd485⟩ := kbd485
          unfold xBr at krbd485
          rw [v0bd485, v1bd485, v2bd485, v3bd485, v4bd485] at krbd485
          refine X_cast hK hs_b482 ⟨by decide, rfl⟩ m_38_23 kd45_11.2.2.2.1 ?_
          refine X_getK hK fl_X5_131_2 hs_b482 (show g355 b482 6 = .int (iI (Y 6 (qq9 (z353 - 1)))) from by have h9 := (fbd485 6 (by decide) (by decide)).1; rw [y6bd485] at h9; rw [he484]; exact h9) kd45_11.2.2.2.2.1 ?_
          refine X_aload hK (i := 6) 0 kd45_11.2.2.2.2.2.1 rfl ?_
          refine X_getK hK fl_X5_131_2 hs_b452 (show g355 b452 6 = .int (iI (Y 6 (qq9 z353))) from by have h9 := (fbd455 6 (by decide) (by decide)).1; rw [y6bd455] at h9; rw [he454]; exact h9) kd45_11.2.2.2.2.2.2.1 ?_
          refine X_icmp_eq hK 87 (by omega) (by omega) kd45_11.2.2.2.2.2.2.2.1 (by decide) (fun c486 => ?_) (fun c486 => ?_)
          · refine X_iload hK (i := 4) 2 kd45_12.2.2.2.2.2.1 rfl ?_
            refine X_aloadn hK (i := 0) 3 kd45_12.2.2.2.2.2.2.1 rfl rfl ?_
            refine X_aload hK (i := 6) 0 kd45_12.2.2.2.2.2.2.2.1 rfl ?_
            refine X_aloadn hK (i := 2) 5 kd45_12.2.2.2.2.2.2.2.2.1 rfl rfl ?_
            refine X_iload hK (i := 4) 2 kd45_12.2.2.2.2.2.2.2.2.2.1 rfl ?_
            refine X_iloadn hK (i := 3) 6 kd45_12.2.2.2.2.2.2.2.2.2.2.1 rfl rfl ?_
            refine X_callV hK [.ref b452, .ref a2, .int (iI z354), .int (iI x3)] [.int (iI z354)] lk_X5_138 (m_cryB1 _ _ _ _ _ S3 g355 a0 b452 a2 z354 x3 ct ow sk fa (B (Y 0 (qq9 z353))) (Y 0 (qq9 z353)) (YB 1 (Y 0 (qq9 z353))) (YB 2 (Y 0 (qq9 z353))) (YB 3 (Y 0 (qq9 z353))) (YB 4 (Y 0 (qq9 z353))) (YBd442 5 (Y 0 (qq9 z353))) (Y 1 (qq9 z353)) (Y 2 (qq9 z353)) (Y 3 (qq9 z353)) (Y 4 (qq9 z353)) (Y 5 (qq9 z353)) q356 q357 q358 ln wk wn wf wb ws T (qr1 _ _ hs_a0) hs_b452 (qr1 _ _ hs_a2) (by omega) (by omega) ((hg355 a0 6 0 0 (qr1 _ _ hs_a0) (by decide)).trans ((hg2 a0 6 0 0 hs_a0 (by decide)).trans ect)) (qr1 _ _ hs_ct) ((hg355 ct 4 0 5 (qr1 _ _ hs_ct) (by decide)).trans ((hg2 ct 4 0 5 hs_ct (by decide)).trans eow)) (qr1 _ _ hs_ow) ((hg355 ct 4 0 0 (qr1 _ _ hs_ct) (by decide)).trans ((hg2 ct 4 0 0 hs_ct (by decide)).trans esk)) (qr1 _ _ hs_sk) ((hg355 a0 6 0 4 (qr1 _ _ hs_a0) (by decide)).trans ((hg2 a0 6 0 4 hs_a0 (by decide)).trans efa)) (qr1 _ _ hs_fa) (show g355 b452 0 = .ref (B (Y 0 (qq9 z353))) from by rw [he454]; exact ybd455) ksbd455 (by omega) (show g355 (B (Y 0 (qq9 z353))) 0 = .int (iI (Y 0 (qq9 z353))) from by have h9 := kfbd455 0 (by decide); rw [v0bd455] at h9; rw [krbd455.1] at h9; exact h9) (by omega) (show g355 (B (Y 0 (qq9 z353))) 1 = .int (iI (YB 1 (Y 0 (qq9 z353)))) from by have h9 := kfbd455 1 (by decide); rw [v1bd455] at h9; exact h9) (by omega) (show g355 (B (Y 0 (qq9 z353))) 2 = .int (iI (YB 2 (Y 0 (qq9 z353)))) from by have h9 := kfbd455 2 (by decide); rw [v2bd455] at h9; exact h9) (by omega) (show g355 (B (Y 0 (qq9 z353))) 3 = .int (iI (YB 3 (Y 0 (qq9 z353)))) from by have h9 := kfbd455 3 (by decide); rw [v3bd455] at h9; exact h9) (by omega) (show g355 (B (Y 0 (qq9 z353))) 4 = .int (iI (YB 4 (Y 0 (qq9 z353)))) from by have h9 := kfbd455 4 (by decide); rw [v4bd455] at h9; exact h9) (by omega) (show g355 (B (Y 0 (qq9 z353))) 5 = .int (iI (YBd442 5 (Y 0 (qq9 z353)))) from by have h9 := kfbd455 5 (by decide); exact h9) (by omega) (show g355 b452 1 = .int (iI (Y 1 (qq9 z353))) from by have h9 := (fbd455 1 (by decide) (by decide)).1; rw [y1bd455] at h9; rw [he454]; exact h9) (by omega) (show g355 b452 2 = .int (iI (Y 2 (qq9 z353))) from by have h9 := (fbd455 2 (by decide) (by decide)).1; rw [y2bd455] at h9; rw [he454]; exact h9) (by omega) (show g355 b452 3 = .int (iI (Y 3 (qq9 z353))) from by have h9 := (fbd455 3 (by decide) (by decide)).1; rw [y3bd455] at h9; rw [he454]; exact h9) (by omega) (show g355 b452 4 = .int (iI (Y 4 (qq9 z353))) from by have h9 := (fbd455 4 (by decide) (by decide)).1; rw [y4bd455] at h9; rw [he454]; exact h9) (by omega) (show g355 b452 5 = .int (iI (Y 5 (qq9 z353))) from by have h9 := (fbd455 5 (by decide) (by decide)).1; rw [y5bd455] at h9; rw [he454]; exact h9) (by omega) eq356 (by omega) eq357 (by omega) eq358 (by omega) ((hg355 a2 11 0 1 (qr1 _ _ hs_a2) (by decide)).trans ((hg2 a2 11 0 1 hs_a2 (by decide)).trans eln)) ((hg355 a2 11 0 3 (qr1 _ _ hs_a2) (by decide)).trans ((hg2 a2 11 0 3 hs_a2 (by decide)).trans ewk)) (qr1 _ _ hs_wk) ((hg355 a2 11 0 4 (qr1 _ _ hs_a2) (by decide)).trans ((hg2 a2 11 0 4 hs_a2 (by decide)).trans ewn)) (qr1 _ _ hs_wn) ((hg355 a2 11 0 5 (qr1 _ _ hs_a2) (by decide)).trans ((hg2 a2 11 0 5 hs_a2 (by decide)).trans ewf)) (qr1 _ _ hs_wf) ((hg355 a2 11 0 6 (qr1 _ _ hs_a2) (by decide)).trans ((hg2 a2 11 0 6 hs_a2 (by decide)).trans ewb)) (qr1 _ _ hs_wb) ((hg355 a2 11 0 7 (qr1 _ _ hs_a2) (by decide)).trans ((hg2 a2 11 0 7 hs_a2 (by decide)).trans ews)) (qr1 _ _ hs_ws) (by rw [(Eq.trans (xv_m hg355 (qr1 _ _ hs_wk) (by decide) (by decide)) (xv_m hg2 hs_wk (by decide) (by decide))), (Eq.trans (xv_m hg355 (qr1 _ _ hs_wn) (by decide) (by decide)) (xv_m hg2 hs_wn (by decide) (by decide))), (Eq.trans (xv_m hg355 (qr1 _ _ hs_wf) (by decide) (by decide)) (xv_m hg2 hs_wf (by decide) (by decide))), (Eq.trans (xv_m hg355 (qr1 _ _ hs_wb) (by decide) (by decide)) (xv_m hg2 hs_wb (by decide) (by decide))), (Eq.trans (xv_m hg355 (qr1 _ _ hs_ws) (by decide) (by decide)) (xv_m hg2 hs_ws (by decide) (by decide)))]; exact hp5)) (qr1 _ _ hs_a0) ⟨by decide, rfl⟩ kd45_12.2.2.2.2.2.2.2.2.2.2.2 rfl rfl (by simp [Value.category]) (by decide) (by omega) (by omega) (by decide) (fun r487 S489 g488 pr487 qr487 hg488 => ?_)
            obtain ⟨rfl, z490, rfl, lz490, uz490, k491, k492, k493, k494, k495, k496, k497, k498, k499, k500, k501⟩ := pr487
            refine X_st [.int (iI z490), .int (iI z354)] rfl ?_
            rw [(Eq.trans (xv_m hg355 (qr1 _ _ hs_ow) (by decide) (by decide)) (xv_m hg2 hs_ow (by decide) (by decide))), (Eq.trans (xv_m hg355 (qr1 _ _ hs_sk) (by decide) (by decide)) (xv_m hg2 hs_sk (by decide) (by decide)))] at k491
            rw [(Eq.trans (xv_m hg355 (qr1 _ _ hs_ow) (by decide) (by decide)) (xv_m hg2 hs_ow (by decide) (by decide))), (Eq.trans (xv_m hg355 (qr1 _ _ hs_sk) (by decide) (by decide)) (xv_m hg2 hs_sk (by decide) (by decide)))] at k492
            rw [(Eq.trans (xv_m hg355 (qr1 _ _ hs_ow) (by decide) (by decide)) (xv_m hg2 hs_ow (by decide) (by decide))), (Eq.trans (xv_m hg355 (qr1 _ _ hs_sk) (by decide) (by decide)) (xv_m hg2 hs_sk (by decide) (by decide)))] at k494
            rw [(Eq.trans (xv_m hg355 (qr1 _ _ hs_ow) (by decide) (by decide)) (xv_m hg2 hs_ow (by decide) (by decide))), (Eq.trans (xv_m hg355 (qr1 _ _ hs_sk) (by decide) (by decide)) (xv_m hg2 hs_sk (by decide) (by decide)))] at k495
            rw [(Eq.trans (xv_m hg355 (qr1 _ _ hs_ow) (by decide) (by decide)) (xv_m hg2 hs_ow (by decide) (by decide))), (Eq.trans (xv_m hg355 (qr1 _ _ hs_sk) (by decide) (by decide)) (xv_m hg2 hs_sk (by decide) (by decide)))] at k497
            rw [(Eq.trans (xv_m hg355 (qr1 _ _ hs_ow) (by decide) (by decide)) (xv_m hg2 hs_ow (by decide) (by decide))), (Eq.trans (xv_m hg355 (qr1 _ _ hs_sk) (by decide) (by decide)) (xv_m hg2 hs_sk (by decide) (by decide)))] at k498
            rw [(Eq.trans (xv_m hg355 (qr1 _ _ hs_ow) (by decide) (by decide)) (xv_m hg2 hs_ow (by decide) (by decide))), (Eq.trans (xv_m hg355 (qr1 _ _ hs_sk) (by decide) (by decide)) (xv_m hg2 hs_sk (by decide) (by decide)))] at k499
            have evcr502 : z490 = if (fun k9 => xts9 T ((xF9 YB Y (xv g ow) (xv g sk)) k9) 4) (qq9 z353) = 1 then xmn9 z354 (Y 3 (qq9 z353)) else 0 := k491
            have bbcr502 : 0 ≤ ((Y 3 (qq9 z353) - z490) * xts9 T ((xF9 YB Y (xv g ow) (xv g sk)) (qq9 z353)) 2 / 100) ∧ ((Y 3 (qq9 z353) - z490) * xts9 T ((xF9 YB Y (xv g ow) (xv g sk)) (qq9 z353)) 2 / 100) ≤ 10000 := k492
            have lzcr502 : z490 ≤ z354 := by rw [evcr502]; unfold xmn9; (repeat' split) <;> omega
            have f5cr502 : g488 a0 5 = .int (iI (xwp (q356 + z490))) := k493
            have g5cr502 : -2147483648 ≤ (xwp (q356 + z490)) ∧ (xwp (q356 + z490)) ≤ 2147483647 := xwp.r _
            have f6cr502 : g488 a0 6 = .int (iI (xwp (q357 + ((z490 * xts9 T ((xF9 YB Y (xv g ow) (xv g sk)) (qq9 z353)) 1 + ((Y 3 (qq9 z353) - z490) * xts9 T ((xF9 YB Y (xv g ow) (xv g sk)) (qq9 z353)) 2 / 100) * xts9 T ((xF9 YB Y (xv g ow) (xv g sk)) (qq9 z353)) 0 / 100) - ((Y 3 (qq9 z353) * xts9 T ((xF9 YB Y (xv g ow) (xv g sk)) (qq9 z353)) 0 + 99) / 100))))) := k494
            have g6cr502 : -2147483648 ≤ (xwp (q357 + ((z490 * xts9 T ((xF9 YB Y (xv g ow) (xv g sk)) (qq9 z353)) 1 + ((Y 3 (qq9 z353) - z490) * xts9 T ((xF9 YB Y (xv g ow) (xv g sk)) (qq9 z353)) 2 / 100) * xts9 T ((xF9 YB Y (xv g ow) (xv g sk)) (qq9 z353)) 0 / 100) - ((Y 3 (qq9 z353) * xts9 T ((xF9 YB Y (xv g ow) (xv g sk)) (qq9 z353)) 0 + 99) / 100)))) ∧ (xwp (q357 + ((z490 * xts9 T ((xF9 YB Y (xv g ow) (xv g sk)) (qq9 z353)) 1 + ((Y 3 (qq9 z353) - z490) * xts9 T ((xF9 YB Y (xv g ow) (xv g sk)) (qq9 z353)) 2 / 100) * xts9 T ((xF9 YB Y (xv g ow) (xv g sk)) (qq9 z353)) 0 / 100) - ((Y 3 (qq9 z353) * xts9 T ((xF9 YB Y (xv g ow) (xv g sk)) (qq9 z353)) 0 + 99) / 100)))) ≤ 2147483647 := xwp.r _
            have f7cr502 : g488 a0 7 = .int (iI (xwp (q358 + (Y 3 (qq9 z353) - z490 - ((Y 3 (qq9 z353) - z490) * xts9 T ((xF9 YB Y (xv g ow) (xv g sk)) (qq9 z353)) 2 / 100))))) := k495
            have g7cr502 : -2147483648 ≤ (xwp (q358 + (Y 3 (qq9 z353) - z490 - ((Y 3 (qq9 z353) - z490) * xts9 T ((xF9 YB Y (xv g ow) (xv g sk)) (qq9 z353)) 2 / 100)))) ∧ (xwp (q358 + (Y 3 (qq9 z353) - z490 - ((Y 3 (qq9 z353) - z490) * xts9 T ((xF9 YB Y (xv g ow) (xv g sk)) (qq9 z353)) 2 / 100)))) ≤ 2147483647 := xwp.r _
            have locr502 := xQcr.l0 hq9 ⟨by omega, by omega⟩ hkp9 hpr9 hcd442
            have elcr502 : z354 = xlft nu.toNat (Y 5) (Y 2) (Y 1) (xKY Y YB (xv g ow)) sd442 (fun c9 p9 => xas (WN c9 p9) (xv g wt (xv g sk x1)) (xv g ld (HD p9 x1))) x1 (qq9 z353) := (locr502.2 (by omega) (by omega) (by omega)).symm
            clear locr502
            have U8cr502 : xUW S3 g488 bn nu nb U B (xyu (xyu (xyu Yd442 8 (qq9 z353) z490) 9 (qq9 z353) ((Y 3 (qq9 z353) - z490) * xts9 T ((xF9 YB Y (xv g ow) (xv g sk)) (qq9 z353)) 2 / 100)) 10 (qq9 z353) (Y 3 (qq9 z353) - z490 - ((Y 3 (qq9 z353) - z490) * xts9 T ((xF9 YB Y (xv g ow) (xv g sk)) (qq9 z353)) 2 / 100))) := xUW.cry hUd442 hg488 (by rw [← he454]; exact k500) (by omega) (by rw [← he454]; exact k496) (by rw [← he454]; exact k497) (by rw [← he454]; exact k498) (by omega) (by omega) (by omega) (by decide)
            have B8cr502 : xBW S3 g488 bo nb B (xyu YBd442 5 (Y 0 (qq9 z353)) (xwp (YBd442 5 (Y 0 (qq9 z353)) + (z490 * xts9 T ((xF9 YB Y (xv g ow) (xv g sk)) (qq9 z353)) 1 + ((Y 3 (qq9 z353) - z490) * xts9 T ((xF9 YB Y (xv g ow) (xv g sk)) (qq9 z353)) 2 / 100) * xts9 T ((xF9 YB Y (xv g ow) (xv g sk)) (qq9 z353)) 0 / 100)))) := xBW.cry hBd442 (by omega) hg488 k501 (by omega) k499 (xwp.r _) (by decide)
            refine X_isub hK kd45_13.1 ?_
            refine X_istore hK (i := 4) [(4, .int (iI (z354 - z490))), (6, .ref b452), (5, .int (iI z353)), (0, .ref a0), (1, .int (iI x1)), (2, .ref a2), (3, .int (iI x3))] kd45_13.2.1 (by decide) rfl ?_
            refine X_iinc hK (i := 5) (z := z353) (n := 1) 2 [(5, .int (iI (z353 + 1))), (4, .int (iI (z354 - z490))), (6, .ref b452), (0, .ref a0), (1, .int (iI x1)), (2, .ref a2), (3, .int (iI x3))] kd45_13.2.2.1 rfl (by decide) rfl ?_
            refine X_goto hK 11 kd45_13.2.2.2.1 (by decide) ?_
            refine X_lv [(5, .int (iI (z353 + 1))), (4, .int (iI (z354 - z490))), (0, .ref a0), (1, .int (iI x1)), (2, .ref a2), (3, .int (iI x3))] [0, 1, 3, 4, 5, 6] rfl ?_
            exact ihP439  g488 (xM.tr (xM.tr xM.rf xLe.rf hg355 (by decide)) xLe.rf hg488 (by decide)) (z353 + 1) (by omega) (by omega) (z354 - z490) (by omega) (by omega) (xwp (q356 + z490)) (by omega) (by omega) f5cr502 (xwp (q357 + ((z490 * xts9 T ((xF9 YB Y (xv g ow) (xv g sk)) (qq9 z353)) 1 + ((Y 3 (qq9 z353) - z490) * xts9 T ((xF9 YB Y (xv g ow) (xv g sk)) (qq9 z353)) 2 / 100) * xts9 T ((xF9 YB Y (xv g ow) (xv g sk)) (qq9 z353)) 0 / 100) - ((Y 3 (qq9 z353) * xts9 T ((xF9 YB Y (xv g ow) (xv g sk)) (qq9 z353)) 0 + 99) / 100)))) (by omega) (by omega) f6cr502 (xwp (q358 + (Y 3 (qq9 z353) - z490 - ((Y 3 (qq9 z353) - z490) * xts9 T ((xF9 YB Y (xv g ow) (xv g sk)) (qq9 z353)) 2 / 100)))) (by omega) (by omega) f7cr502 ⟨xup9 qq9 sd442 z353 z490, _, _, U8cr502, B8cr502, (xQW.m hQd442 hg488 xLe.rf (by decide)), xQcr.nx hq9 ⟨by omega, by omega⟩ hcd442 elcr502 evcr502, xQd.nx hq9 ⟨by omega, by omega⟩ hdd442 rfl rfl rfl rfl, (xqm.nx hq9 ⟨by omega, by omega⟩ h0d442 (by unfold xwh9; rw [if_pos rfl, xup9.at9])), (xqm.nx hq9 ⟨by omega, by omega⟩ h1d442 (by unfold xwh9 xin9 xbk9; rw [if_neg (by decide), if_neg (by decide), xup9.at9])), (xqm.nx hq9 ⟨by omega, by omega⟩ h2d442 (by unfold xwh9 xbk9; rw [if_neg (by decide), if_pos rfl, xup9.at9]))⟩ (by omega) (by omega)
          · refine X_aloadn hK (i := 0) 3 kd45_11.2.2.2.2.2.2.2.2.1 rfl rfl ?_
            refine X_getK hK fl_X5_12_6 (qr1 _ _ hs_a0) ((hg355 a0 6 0 0 (qr1 _ _ hs_a0) (by decide)).trans ((hg2 a0 6 0 0 hs_a0 (by decide)).trans ect)) kd45_11.2.2.2.2.2.2.2.2.2.1 ?_
            refine X_iloadn hK (i := 1) 4 kd45_11.2.2.2.2.2.2.2.2.2.2.1 rfl rfl ?_
            refine X_aload hK (i := 6) 0 kd45_11.2.2.2.2.2.2.2.2.2.2.2 rfl ?_
            refine X_getK hK fl_X5_80_2 hs_b452 (show g355 b452 2 = .int (iI (Y 2 (qq9 z353))) from by have h9 := (fbd455 2 (by decide) (by decide)).1; rw [y2bd455] at h9; rw [he454]; exact h9) kd45_12.1 ?_
            refine X_aload hK (i := 6) 0 kd45_12.2.1 rfl ?_
            refine X_getK hK fl_X5_77_2 hs_b452 (show g355 b452 1 = .int (iI (Y 1 (qq9 z353))) from by have h9 := (fbd455 1 (by decide) (by decide)).1; rw [y1bd455] at h9; rw [he454]; exact h9) kd45_12.2.2.1 ?_
            refine X_callV hK [.int (iI x1), .int (iI (Y 2 (qq9 z353))), .int (iI (Y 1 (qq9 z353)))] [] lk_X5_134 (m_askedOn _ _ _ _ _ S3 g355 ct x1 (Y 2 (qq9 z353)) (Y 1 (qq9 z353)) sk hg wt ld wg WN HD (qr1 _ _ hs_ct) (by omega) (by omega) (by omega) ((hg355 ct 4 0 0 (qr1 _ _ hs_ct) (by decide)).trans ((hg2 ct 4 0 0 hs_ct (by decide)).trans esk)) (qr1 _ _ hs_sk) ((hg355 ct 4 0 1 (qr1 _ _ hs_ct) (by decide)).trans ((hg2 ct 4 0 1 hs_ct (by decide)).trans ehg)) (qr1 _ _ hs_hg) ((hg355 ct 4 0 2 (qr1 _ _ hs_ct) (by decide)).trans ((hg2 ct 4 0 2 hs_ct (by decide)).trans ewt)) (qr1 _ _ hs_wt) ((hg355 ct 4 0 3 (qr1 _ _ hs_ct) (by decide)).trans ((hg2 ct 4 0 3 hs_ct (by decide)).trans eld)) (qr1 _ _ hs_ld) ((hg355 ct 4 0 4 (qr1 _ _ hs_ct) (by decide)).trans ((hg2 ct 4 0 4 hs_ct (by decide)).trans ewg)) (qr1 _ _ hs_wg) (xWW.m (xWW.m hp6 hg2 qr1 (by decide)) hg355 xLe.rf (by decide)) (xHW.m (xHW.m hp7 hg2 qr1 (by decide)) hg355 xLe.rf (by decide))) (qr1 _ _ hs_ct) ⟨by decide, rfl⟩ kd45_12.2.2.2.1 rfl rfl (by simp [Value.category]) (by decide) (by omega) (by omega) (by decide) (fun r503 S505 g504 pr503 qr503 hg504 => ?_)
            obtain ⟨rfl, rfl, z506, rfl, lz506, uz506, k507⟩ := pr503
            refine X_st [.int (iI z506)] rfl ?_
            have as508 := k507
            rw [(Eq.trans (xv_m hg355 (qr1 _ _ hs_wt) (by decide) (by decide)) (xv_m hg2 hs_wt (by decide) (by decide))), (Eq.trans (xv_m hg355 (qr1 _ _ hs_sk) (by decide) (by decide)) (xv_m hg2 hs_sk (by decide) (by decide))), (Eq.trans (xv_m hg355 (qr1 _ _ hs_ld) (by decide) (by decide)) (xv_m hg2 hs_ld (by decide) (by decide)))] at as508
            clear k507
            refine X_istore hK (i := 4) [(4, .int (iI z506)), (6, .ref b452), (5, .int (iI z353)), (0, .ref a0), (1, .int (iI x1)), (2, .ref a2), (3, .int (iI x3))] kd45_12.2.2.2.2.1 (by decide) rfl ?_
            refine X_iload hK (i := 4) 0 kd45_12.2.2.2.2.2.1 rfl ?_
            refine X_aloadn hK (i := 0) 3 kd45_12.2.2.2.2.2.2.1 rfl rfl ?_
            refine X_aload hK (i := 6) 1 kd45_12.2.2.2.2.2.2.2.1 rfl ?_
            refine X_aloadn hK (i := 2) 5 kd45_12.2.2.2.2.2.2.2.2.1 rfl rfl ?_
            refine X_iload hK (i := 4) 0 kd45_12.2.2.2.2.2.2.2.2.2.1 rfl ?_
            refine X_iloadn hK (i := 3) 6 kd45_12.2.2.2.2.2.2.2.2.2.2.1 rfl rfl ?_
            refine X_callV hK [.ref b452, .ref a2, .int (iI z506), .int (iI x3)] [.int (iI z506)] lk_X5_138 (m_cryB1 _ _ _ _ _ S3 g355 a0 b452 a2 z506 x3 ct ow sk fa (B (Y 0 (qq9 z353))) (Y 0 (qq9 z353)) (YB 1 (Y 0 (qq9 z353))) (YB 2 (Y 0 (qq9 z353))) (YB 3 (Y 0 (qq9 z353))) (YB 4 (Y 0 (qq9 z353))) (YBd442 5 (Y 0 (qq9 z353))) (Y 1 (qq9 z353)) (Y 2 (qq9 z353)) (Y 3 (qq9 z353)) (Y 4 (qq9 z353)) (Y 5 (qq9 z353)) q356 q357 q358 ln wk wn wf wb ws T (qr1 _ _ hs_a0) hs_b452 (qr1 _ _ hs_a2) (by omega) (by omega) ((hg355 a0 6 0 0 (qr1 _ _ hs_a0) (by decide)).trans ((hg2 a0 6 0 0 hs_a0 (by decide)).trans ect)) (qr1 _ _ hs_ct) ((hg355 ct 4 0 5 (qr1 _ _ hs_ct) (by decide)).trans ((hg2 ct 4 0 5 hs_ct (by decide)).trans eow)) (qr1 _ _ hs_ow) ((hg355 ct 4 0 0 (qr1 _ _ hs_ct) (by decide)).trans ((hg2 ct 4 0 0 hs_ct (by decide)).trans esk)) (qr1 _ _ hs_sk) ((hg355 a0 6 0 4 (qr1 _ _ hs_a0) (by decide)).trans ((hg2 a0 6 0 4 hs_a0 (by decide)).trans efa)) (qr1 _ _ hs_fa) (show g355 b452 0 = .ref (B (Y 0 (qq9 z353))) from by rw [he454]; exact ybd455) ksbd455 (by omega) (show g355 (B (Y 0 (qq9 z353))) 0 = .int (iI (Y 0 (qq9 z353))) from by have h9 := kfbd455 0 (by decide); rw [v0bd455] at h9; rw [krbd455.1] at h9; exact h9) (by omega) (show g355 (B (Y 0 (qq9 z353))) 1 = .int (iI (YB 1 (Y 0 (qq9 z353)))) from by have h9 := kfbd455 1 (by decide); rw [v1bd455] at h9; exact h9) (by omega) (show g355 (B (Y 0 (qq9 z353))) 2 = .int (iI (YB 2 (Y 0 (qq9 z353)))) from by have h9 := kfbd455 2 (by decide); rw [v2bd455] at h9; exact h9) (by omega) (show g355 (B (Y 0 (qq9 z353))) 3 = .int (iI (YB 3 (Y 0 (qq9 z353)))) from by have h9 := kfbd455 3 (by decide); rw [v3bd455] at h9; exact h9) (by omega) (show g355 (B (Y 0 (qq9 z353))) 4 = .int (iI (YB 4 (Y 0 (qq9 z353)))) from by have h9 := kfbd455 4 (by decide); rw [v4bd455] at h9; exact h9) (by omega) (show g355 (B (Y 0 (qq9 z353))) 5 = .int (iI (YBd442 5 (Y 0 (qq9 z353)))) from by have h9 := kfbd455 5 (by decide); exact h9) (by omega) (show g355 b452 1 = .int (iI (Y 1 (qq9 z353))) from by have h9 := (fbd455 1 (by decide) (by decide)).1; rw [y1bd455] at h9; rw [he454]; exact h9) (by omega) (show g355 b452 2 = .int (iI (Y 2 (qq9 z353))) from by have h9 := (fbd455 2 (by decide) (by decide)).1; rw [y2bd455] at h9; rw [he454]; exact h9) (by omega) (show g355 b452 3 = .int (iI (Y 3 (qq9 z353))) from by have h9 := (fbd455 3 (by decide) (by decide)).1; rw [y3bd455] at h9; rw [he454]; exact h9) (by omega) (show g355 b452 4 = .int (iI (Y 4 (qq9 z353))) from by have h9 := (fbd455 4 (by decide) (by decide)).1; rw [y4bd455] at h9; rw [he454]; exact h9) (by omega) (show g355 b452 5 = .int (iI (Y 5 (qq9 z353))) from by have h9 := (fbd455 5 (by decide) (by decide)).1; rw [y5bd455] at h9; rw [he454]; exact h9) (by omega) eq356 (by omega) eq357 (by omega) eq358 (by omega) ((hg355 a2 11 0 1 (qr1 _ _ hs_a2) (by decide)).trans ((hg2 a2 11 0 1 hs_a2 (by decide)).trans eln)) ((hg355 a2 11 0 3 (qr1 _ _ hs_a2) (by decide)).trans ((hg2 a2 11 0 3 hs_a2 (by decide)).trans ewk)) (qr1 _ _ hs_wk) ((hg355 a2 11 0 4 (qr1 _ _ hs_a2) (by decide)).trans ((hg2 a2 11 0 4 hs_a2 (by decide)).trans ewn)) (qr1 _ _ hs_wn) ((hg355 a2 11 0 5 (qr1 _ _ hs_a2) (by decide)).trans ((hg2 a2 11 0 5 hs_a2 (by decide)).trans ewf)) (qr1 _ _ hs_wf) ((hg355 a2 11 0 6 (qr1 _ _ hs_a2) (by decide)).trans ((hg2 a2 11 0 6 hs_a2 (by decide)).trans ewb)) (qr1 _ _ hs_wb) ((hg355 a2 11 0 7 (qr1 _ _ hs_a2) (by decide)).trans ((hg2 a2 11 0 7 hs_a2 (by decide)).trans ews)) (qr1 _ _ hs_ws) (by rw [(Eq.trans (xv_m hg355 (qr1 _ _ hs_wk) (by decide) (by decide)) (xv_m hg2 hs_wk (by decide) (by decide))), (Eq.trans (xv_m hg355 (qr1 _ _ hs_wn) (by decide) (by decide)) (xv_m hg2 hs_wn (by decide) (by decide))), (Eq.trans (xv_m hg355 (qr1 _ _ hs_wf) (by decide) (by decide)) (xv_m hg2 hs_wf (by decide) (by decide))), (Eq.trans (xv_m hg355 (qr1 _ _ hs_wb) (by decide) (by decide)) (xv_m hg2 hs_wb (by decide) (by decide))), (Eq.trans (xv_m hg355 (qr1 _ _ hs_ws) (by decide) (by decide)) (xv_m hg2 hs_ws (by decide) (by decide)))]; exact hp5)) (qr1 _ _ hs_a0) ⟨by decide, rfl⟩ kd45_12.2.2.2.2.2.2.2.2.2.2.2 rfl rfl (by simp [Value.category]) (by decide) (by omega) (by omega) (by decide) (fun r509 S511 g510 pr509 qr509 hg510 => ?_)
            obtain ⟨rfl, z512, rfl, lz512, uz512, k513, k514, k515, k516, k517, k518, k519, k520, k521, k522, k523⟩ := pr509
            refine X_st [.int (iI z512), .int (iI z506)] rfl ?_
            rw [(Eq.trans (xv_m hg355 (qr1 _ _ hs_ow) (by decide) (by decide)) (xv_m hg2 hs_ow (by decide) (by decide))), (Eq.trans (xv_m hg355 (qr1 _ _ hs_sk) (by decide) (by decide)) (xv_m hg2 hs_sk (by decide) (by decide)))] at k513
            rw [(Eq.trans (xv_m hg355 (qr1 _ _ hs_ow) (by decide) (by decide)) (xv_m hg2 hs_ow (by decide) (by decide))), (Eq.trans (xv_m hg355 (qr1 _ _ hs_sk) (by decide) (by decide)) (xv_m hg2 hs_sk (by decide) (by decide)))] at k514
            rw [(Eq.trans (xv_m hg355 (qr1 _ _ hs_ow) (by decide) (by decide)) (xv_m hg2 hs_ow (by decide) (by decide))), (Eq.trans (xv_m hg355 (qr1 _ _ hs_sk) (by decide) (by decide)) (xv_m hg2 hs_sk (by decide) (by decide)))] at k516
            rw [(Eq.trans (xv_m hg355 (qr1 _ _ hs_ow) (by decide) (by decide)) (xv_m hg2 hs_ow (by decide) (by decide))), (Eq.trans (xv_m hg355 (qr1 _ _ hs_sk) (by decide) (by decide)) (xv_m hg2 hs_sk (by decide) (by decide)))] at k517
            rw [(Eq.trans (xv_m hg355 (qr1 _ _ hs_ow) (by decide) (by decide)) (xv_m hg2 hs_ow (by decide) (by decide))), (Eq.trans (xv_m hg355 (qr1 _ _ hs_sk) (by decide) (by decide)) (xv_m hg2 hs_sk (by decide) (by decide)))] at k519
            rw [(Eq.trans (xv_m hg355 (qr1 _ _ hs_ow) (by decide) (by decide)) (xv_m hg2 hs_ow (by decide) (by decide))), (Eq.trans (xv_m hg355 (qr1 _ _ hs_sk) (by decide) (by decide)) (xv_m hg2 hs_sk (by decide) (by decide)))] at k520
            rw [(Eq.trans (xv_m hg355 (qr1 _ _ hs_ow) (by decide) (by decide)) (xv_m hg2 hs_ow (by decide) (by decide))), (Eq.trans (xv_m hg355 (qr1 _ _ hs_sk) (by decide) (by decide)) (xv_m hg2 hs_sk (by decide) (by decide)))] at k521
            have evcr524 : z512 = if (fun k9 => xts9 T ((xF9 YB Y (xv g ow) (xv g sk)) k9) 4) (qq9 z353) = 1 then xmn9 z506 (Y 3 (qq9 z353)) else 0 := k513
            have bbcr524 : 0 ≤ ((Y 3 (qq9 z353) - z512) * xts9 T ((xF9 YB Y (xv g ow) (xv g sk)) (qq9 z353)) 2 / 100) ∧ ((Y 3 (qq9 z353) - z512) * xts9 T ((xF9 YB Y (xv g ow) (xv g sk)) (qq9 z353)) 2 / 100) ≤ 10000 := k514
            have lzcr524 : z512 ≤ z506 := by rw [evcr524]; unfold xmn9; (repeat' split) <;> omega
            have f5cr524 : g510 a0 5 = .int (iI (xwp (q356 + z512))) := k515
            have g5cr524 : -2147483648 ≤ (xwp (q356 + z512)) ∧ (xwp (q356 + z512)) ≤ 2147483647 := xwp.r _
            have f6cr524 : g510 a0 6 = .int (iI (xwp (q357 + ((z512 * xts9 T ((xF9 YB Y (xv g ow) (xv g sk)) (qq9 z353)) 1 + ((Y 3 (qq9 z353) - z512) * xts9 T ((xF9 YB Y (xv g ow) (xv g sk)) (qq9 z353)) 2 / 100) * xts9 T ((xF9 YB Y (xv g ow) (xv g sk)) (qq9 z353)) 0 / 100) - ((Y 3 (qq9 z353) * xts9 T ((xF9 YB Y (xv g ow) (xv g sk)) (qq9 z353)) 0 + 99) / 100))))) := k516
            have g6cr524 : -2147483648 ≤ (xwp (q357 + ((z512 * xts9 T ((xF9 YB Y (xv g ow) (xv g sk)) (qq9 z353)) 1 + ((Y 3 (qq9 z353) - z512) * xts9 T ((xF9 YB Y (xv g ow) (xv g sk)) (qq9 z353)) 2 / 100) * xts9 T ((xF9 YB Y (xv g ow) (xv g sk)) (qq9 z353)) 0 / 100) - ((Y 3 (qq9 z353) * xts9 T ((xF9 YB Y (xv g ow) (xv g sk)) (qq9 z353)) 0 + 99) / 100)))) ∧ (xwp (q357 + ((z512 * xts9 T ((xF9 YB Y (xv g ow) (xv g sk)) (qq9 z353)) 1 + ((Y 3 (qq9 z353) - z512) * xts9 T ((xF9 YB Y (xv g ow) (xv g sk)) (qq9 z353)) 2 / 100) * xts9 T ((xF9 YB Y (xv g ow) (xv g sk)) (qq9 z353)) 0 / 100) - ((Y 3 (qq9 z353) * xts9 T ((xF9 YB Y (xv g ow) (xv g sk)) (qq9 z353)) 0 + 99) / 100)))) ≤ 2147483647 := xwp.r _
            have f7cr524 : g510 a0 7 = .int (iI (xwp (q358 + (Y 3 (qq9 z353) - z512 - ((Y 3 (qq9 z353) - z512) * xts9 T ((xF9 YB Y (xv g ow) (xv g sk)) (qq9 z353)) 2 / 100))))) := k517
            have g7cr524 : -2147483648 ≤ (xwp (q358 + (Y 3 (qq9 z353) - z512 - ((Y 3 (qq9 z353) - z512) * xts9 T ((xF9 YB Y (xv g ow) (xv g sk)) (qq9 z353)) 2 / 100)))) ∧ (xwp (q358 + (Y 3 (qq9 z353) - z512 - ((Y 3 (qq9 z353) - z512) * xts9 T ((xF9 YB Y (xv g ow) (xv g sk)) (qq9 z353)) 2 / 100)))) ≤ 2147483647 := xwp.r _
            have locr524 := xQcr.l0 hq9 ⟨by omega, by omega⟩ hkp9 hpr9 hcd442
            have elcr524 : z506 = xlft nu.toNat (Y 5) (Y 2) (Y 1) (xKY Y YB (xv g ow)) sd442 (fun c9 p9 => xas (WN c9 p9) (xv g wt (xv g sk x1)) (xv g ld (HD p9 x1))) x1 (qq9 z353) := (by rw [locr524.1 (by omega)]; exact as508)
            clear locr524
            have U8cr524 : xUW S3 g510 bn nu nb U B (xyu (xyu (xyu Yd442 8 (qq9 z353) z512) 9 (qq9 z353) ((Y 3 (qq9 z353) - z512) * xts9 T ((xF9 YB Y (xv g ow) (xv g sk)) (qq9 z353)) 2 / 100)) 10 (qq9 z353) (Y 3 (qq9 z353) - z512 - ((Y 3 (qq9 z353) - z512) * xts9 T ((xF9 YB Y (xv g ow) (xv g sk)) (qq9 z353)) 2 / 100))) := xUW.cry hUd442 hg510 (by rw [← he454]; exact k522) (by omega) (by rw [← he454]; exact k518) (by rw [← he454]; exact k519) (by rw [← he454]; exact k520) (by omega) (by omega) (by omega) (by decide)
            have B8cr524 : xBW S3 g510 bo nb B (xyu YBd442 5 (Y 0 (qq9 z353)) (xwp (YBd442 5 (Y 0 (qq9 z353)) + (z512 * xts9 T ((xF9 YB Y (xv g ow) (xv g sk)) (qq9 z353)) 1 + ((Y 3 (qq9 z353) - z512) * xts9 T ((xF9 YB Y (xv g ow) (xv g sk)) (qq9 z353)) 2 / 100) * xts9 T ((xF9 YB Y (xv g ow) (xv g sk)) (qq9 z353)) 0 / 100)))) := xBW.cry hBd442 (by omega) hg510 k523 (by omega) k521 (xwp.r _) (by decide)
            refine X_isub hK kd45_13.1 ?_
            refine X_istore hK (i := 4) [(4, .int (iI (z506 - z512))), (6, .ref b452), (5, .int (iI z353)), (0, .ref a0), (1, .int (iI x1)), (2, .ref a2), (3, .int (iI x3))] kd45_13.2.1 (by decide) rfl ?_
            refine X_iinc hK (i := 5) (z := z353) (n := 1) 2 [(5, .int (iI (z353 + 1))), (4, .int (iI (z506 - z512))), (6, .ref b452), (0, .ref a0), (1, .int (iI x1)), (2, .ref a2), (3, .int (iI x3))] kd45_13.2.2.1 rfl (by decide) rfl ?_
            refine X_goto hK 11 kd45_13.2.2.2.1 (by decide) ?_
            refine X_lv [(5, .int (iI (z353 + 1))), (4, .int (iI (z506 - z512))), (0, .ref a0), (1, .int (iI x1)), (2, .ref a2), (3, .int (iI x3))] [0, 1, 3, 4, 5, 6] rfl ?_
            exact ihP439  g510 (xM.tr (xM.tr xM.rf xLe.rf hg355 (by decide)) xLe.rf hg510 (by decide)) (z353 + 1) (by omega) (by omega) (z506 - z512) (by omega) (by omega) (xwp (q356 + z512)) (by omega) (by omega) f5cr524 (xwp (q357 + ((z512 * xts9 T ((xF9 YB Y (xv g ow) (xv g sk)) (qq9 z353)) 1 + ((Y 3 (qq9 z353) - z512) * xts9 T ((xF9 YB Y (xv g ow) (xv g sk)) (qq9 z353)) 2 / 100) * xts9 T ((xF9 YB Y (xv g ow) (xv g sk)) (qq9 z353)) 0 / 100) - ((Y 3 (qq9 z353) * xts9 T ((xF9 YB Y (xv g ow) (xv g sk)) (qq9 z353)) 0 + 99) / 100)))) (by omega) (by omega) f6cr524 (xwp (q358 + (Y 3 (qq9 z353) - z512 - ((Y 3 (qq9 z353) - z512) * xts9 T ((xF9 YB Y (xv g ow) (xv g sk)) (qq9 z353)) 2 / 100)))) (by omega) (by omega) f7cr524 ⟨xup9 qq9 sd442 z353 z512, _, _, U8cr524, B8cr524, (xQW.m hQd442 hg510 xLe.rf (by decide)), xQcr.nx hq9 ⟨by omega, by omega⟩ hcd442 elcr524 evcr524, xQd.nx hq9 ⟨by omega, by omega⟩ hdd442 rfl rfl rfl rfl, (xqm.nx hq9 ⟨by omega, by omega⟩ h0d442 (by unfold xwh9; rw [if_pos rfl, xup9.at9])), (xqm.nx hq9 ⟨by omega, by omega⟩ h1d442 (by unfold xwh9 xin9 xbk9; rw [if_neg (by decide), if_neg (by decide), xup9.at9])), (xqm.nx hq9 ⟨by omega, by omega⟩ h2d442 (by unfold xwh9 xbk9; rw [if_neg (by decide), if_pos rfl, xup9.at9]))⟩ (by omega) (by omega)
  exact P439 ((300 - 0 : Int).toNat + 1) g2 xM.rf 0 (by omega) (by omega) 0 (by omega) (by omega) s5 (by omega) (by omega) ((hg2 a0 6 0 5 hs_a0 (by decide)).trans es5) s6 (by omega) (by omega) ((hg2 a0 6 0 6 hs_a0 (by decide)).trans es6) s7 (by omega) (by omega) ((hg2 a0 6 0 7 hs_a0 (by decide)).trans es7) ⟨fun _ => 0, Y, YB, (xUW.m hp3 hg2 qr1 (by decide)), (xBW.m hp4 hg2 qr1 (by decide)), hwq9, xQcr.z, xQd.z (fun b9 r1 r2 => (hp4.2 b9 r1 r2).2.2.2.2.2.2.2.2), (by show s5 = xwp (s5 + 0); rw [Int.add_zero, xwp.id (by omega)]), (by show s6 = xwp (s6 + 0); rw [Int.add_zero, xwp.id (by omega)]), (by show s7 = xwp (s7 + 0); rw [Int.add_zero, xwp.id (by omega)])⟩ (by omega) (by omega)
