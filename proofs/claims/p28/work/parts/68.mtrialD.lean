
set_option maxHeartbeats 4000000 in
set_option maxRecDepth 100000 in
theorem m_placeOf (l : Launch) (D : va_G) (kA : Nat → ClassId) (b0 : Nat) (t0 : Nat → Nat) (S : xT) (g : xG) (x0 : Int) (x1 : Int) (x2 : Int) (hx0 : 0 ≤ x0 ∧ x0 ≤ 399) (hx1 : 0 ≤ x1 ∧ x1 ≤ 3) (hx2 : 0 ≤ x2 ∧ x2 ≤ 9) : xMt l yX11_placeOf cX11_placeOf 3 (some .int) 0 0 0 0 D kA b0 t0 [] [.int (iI x0), .int (iI x1), .int (iI x2)] S g (fun (r : Option Value) (S1 : xT) (g1 : xG) => S = S1 ∧ g = g1 ∧ ∃ z : Int, r = some (.int (iI z)) ∧ 0 ≤ z ∧ z ≤ 15999 ∧ (z = (4 * x0 + x1) * 10 + x2)) := by
  refine xEnterI (by decide) (by simp [lg_sl, Value.category]) [(0, .int (iI x0)), (1, .int (iI x1)), (2, .int (iI x2))] rfl ?_
  intro K E hK hret _ _ _
  refine X_iloadn hK (i := 0) 0 kd20_8.2.2.2.2.2.2.2.1 rfl rfl ?_
  refine X_iconst hK kd20_8.2.2.2.2.2.2.2.2.1 ?_
  refine X_imul hK kd20_8.2.2.2.2.2.2.2.2.2.1 ?_
  refine X_iloadn hK (i := 1) 1 kd20_8.2.2.2.2.2.2.2.2.2.2.1 rfl rfl ?_
  refine X_iadd hK kd20_8.2.2.2.2.2.2.2.2.2.2.2 ?_
  refine X_bipush hK kd20_9.1 (by decide) ?_
  refine X_imul hK kd20_9.2.1 ?_
  refine X_iloadn hK (i := 2) 2 kd20_9.2.2.1 rfl rfl ?_
  refine X_iadd hK kd20_9.2.2.2.1 ?_
  exact hret _ _ _ _ _ _ _ kd20_9.2.2.2.2.1 ⟨rfl, rfl, ((((x0 * 4) + x1) * 10) + x2), rfl, (by omega), (by omega), (by omega)⟩ (Nat.le_refl _) (Nat.le_refl _)

set_option maxHeartbeats 4000000 in
set_option maxRecDepth 100000 in
theorem m_init1 (l : Launch) (D : va_G) (kA : Nat → ClassId) (b0 : Nat) (t0 : Nat → Nat) (S : xT) (g : xG) (a0 : Nat) (a1 : Nat) (x2 : Int) (x3 : Int) (x4 : Int) (x5 : Int) (x6 : Int) (hs_a0 : S a0 = some (5002, 0)) (hs_a1 : S a1 = some (1, 0)) (hx2 : 0 ≤ x2 ∧ x2 ≤ 3) (hx3 : 0 ≤ x3 ∧ x3 ≤ 9) (hx4 : 1 ≤ x4 ∧ x4 ≤ 1000) (hx5 : 4 ≤ x5 ∧ x5 ≤ 20) (hx6 : 0 ≤ x6 ∧ x6 ≤ 399) : xMu l yX1_init cX1_init 7 none 1 0 0 22 D kA b0 t0 [(5002, 7), (5002, 8), (5002, 9), (5002, 10), (5002, 0), (5002, 1), (5002, 2), (5002, 3), (5002, 4), (5002, 5), (5002, 6)] [.ref a0, .ref a1, .int (iI x2), .int (iI x3), .int (iI x4), .int (iI x5), .int (iI x6)] S g (fun (r : Option Value) (S1 : xT) (g1 : xG) (dc ds : Nat) => xNw2 S S1 [] ∧ r = none ∧ (∀ k9 : Nat, xok S1 (xsl 2 k9) (g1 a0 k9)) ∧ (dc = 0 ∧ ds = 0) ∧ (g1 a0 0 = .ref a1) ∧ (g1 a0 1 = .int (iI x2)) ∧ (g1 a0 2 = .int (iI x3)) ∧ (g1 a0 3 = .int (iI x4)) ∧ (g1 a0 4 = .int (iI x5)) ∧ (g1 a0 5 = .int (iI x6)) ∧ (g1 a0 6 = .int (iI ((4 * x6 + x2) * 10 + x3))) ∧ (g1 a0 7 = .int (iI 0)) ∧ (g1 a0 8 = .int (iI 0)) ∧ (g1 a0 9 = .int (iI 0)) ∧ (g1 a0 10 = .int (iI 0))) := by
  refine xEnterUV (by decide) (by simp [lg_sl, Value.category]) [(0, .ref a0), (1, .ref a1), (2, .int (iI x2)), (3, .int (iI x3)), (4, .int (iI x4)), (5, .int (iI x5)), (6, .int (iI x6))] rfl ?_
  intro K E hK hret hS0 _ hini ht
  subst ht
  refine X_aloadn hK (i := 0) 0 kd43_20.2.2.2.2.2.2.1 rfl rfl ?_
  refine X_oinit hK ⟨m_33_4, m_1_11, m_1_12⟩ ⟨by decide, by simp [Value.category]⟩ kd43_20.2.2.2.2.2.2.2.1 ?_
  refine X_aloadn hK (i := 0) 0 kd43_20.2.2.2.2.2.2.2.2.1 rfl rfl ?_
  refine X_iconst hK kd43_20.2.2.2.2.2.2.2.2.2.1 ?_
  refine X_putv hK fl_X1_7_5002 hs_a0 (by decide) (xokr 2 7 (by decide)) rfl rfl kd43_20.2.2.2.2.2.2.2.2.2.2.1 (fun g1 hg1 => ?_)
  refine X_aloadn hK (i := 0) 0 kd43_20.2.2.2.2.2.2.2.2.2.2.2 rfl rfl ?_
  refine X_iconst hK kd43_21.1 ?_
  refine X_putv hK fl_X1_13_5002 hs_a0 (by decide) (xokr 2 8 (by decide)) rfl rfl kd43_21.2.1 (fun g2 hg2 => ?_)
  refine X_aloadn hK (i := 0) 0 kd43_21.2.2.1 rfl rfl ?_
  refine X_iconst hK kd43_21.2.2.2.1 ?_
  refine X_putv hK fl_X1_16_5002 hs_a0 (by decide) (xokr 2 9 (by decide)) rfl rfl kd43_21.2.2.2.2.1 (fun g3 hg3 => ?_)
  refine X_aloadn hK (i := 0) 0 kd43_21.2.2.2.2.2.1 rfl rfl ?_
  refine X_iconst hK kd43_21.2.2.2.2.2.2.1 ?_
  refine X_putv hK fl_X1_19_5002 hs_a0 (by decide) (xokr 2 10 (by decide)) rfl rfl kd43_21.2.2.2.2.2.2.2.1 (fun g4 hg4 => ?_)
  refine X_aloadn hK (i := 0) 0 kd43_21.2.2.2.2.2.2.2.2.1 rfl rfl ?_
  refine X_aloadn hK (i := 1) 1 kd43_21.2.2.2.2.2.2.2.2.2.1 rfl rfl ?_
  refine X_putF hK fl_X1_22_5002 (fun T9 N9 C9 h9 => by cases (Option.some.inj (h9.symm.trans (rfl : vwCl[2]? = some (RX1, TX1, 11)))); rfl) (hini rfl) hs_a0 (Or.inr (by decide)) (xokr 2 0 (by decide)) rfl rfl kd43_21.2.2.2.2.2.2.2.2.2.2.1 (fun g5 hg5 => ?_)
  refine X_aloadn hK (i := 0) 0 kd43_21.2.2.2.2.2.2.2.2.2.2.2 rfl rfl ?_
  refine X_iloadn hK (i := 2) 2 kd43_22.1 rfl rfl ?_
  refine X_putF hK fl_X1_26_5002 (fun T9 N9 C9 h9 => by cases (Option.some.inj (h9.symm.trans (rfl : vwCl[2]? = some (RX1, TX1, 11)))); rfl) (hini rfl) hs_a0 (Or.inr (by decide)) (xokr 2 1 (by decide)) rfl rfl kd43_22.2.1 (fun g6 hg6 => ?_)
  refine X_aloadn hK (i := 0) 0 kd43_22.2.2.1 rfl rfl ?_
  refine X_iloadn hK (i := 3) 3 kd43_22.2.2.2.1 rfl rfl ?_
  refine X_putF hK fl_X1_29_5002 (fun T9 N9 C9 h9 => by cases (Option.some.inj (h9.symm.trans (rfl : vwCl[2]? = some (RX1, TX1, 11)))); rfl) (hini rfl) hs_a0 (Or.inr (by decide)) (xokr 2 2 (by decide)) rfl rfl kd43_22.2.2.2.2.1 (fun g7 hg7 => ?_)
  refine X_aloadn hK (i := 0) 0 kd43_22.2.2.2.2.2.1 rfl rfl ?_
  refine X_iload hK (i := 4) 4 kd43_22.2.2.2.2.2.2.1 rfl ?_
  refine X_putF hK fl_X1_32_5002 (fun T9 N9 C9 h9 => by cases (Option.some.inj (h9.symm.trans (rfl : vwCl[2]? = some (RX1, TX1, 11)))); rfl) (hini rfl) hs_a0 (Or.inr (by decide)) (xokr 2 3 (by decide)) rfl rfl kd43_22.2.2.2.2.2.2.2.1 (fun g8 hg8 => ?_)
  refine X_aloadn hK (i := 0) 0 kd43_22.2.2.2.2.2.2.2.2.1 rfl rfl ?_
  refine X_iload hK (i := 5) 5 kd43_22.2.2.2.2.2.2.2.2.2.1 rfl ?_
  refine X_putF hK fl_X1_35_5002 (fun T9 N9 C9 h9 => by cases (Option.some.inj (h9.symm.trans (rfl : vwCl[2]? = some (RX1, TX1, 11)))); rfl) (hini rfl) hs_a0 (Or.inr (by decide)) (xokr 2 4 (by decide)) rfl rfl kd43_22.2.2.2.2.2.2.2.2.2.2.1 (fun g9 hg9 => ?_)
  refine X_aloadn hK (i := 0) 0 kd43_22.2.2.2.2.2.2.2.2.2.2.2 rfl rfl ?_
  refine X_iload hK (i := 6) 6 kd43_23.1 rfl ?_
  refine X_putF hK fl_X1_38_5002 (fun T9 N9 C9 h9 => by cases (Option.some.inj (h9.symm.trans (rfl : vwCl[2]? = some (RX1, TX1, 11)))); rfl) (hini rfl) hs_a0 (Or.inr (by decide)) (xokr 2 5 (by decide)) rfl rfl kd43_23.2.1 (fun g10 hg10 => ?_)
  refine X_aloadn hK (i := 0) 0 kd43_23.2.2.1 rfl rfl ?_
  refine X_iload hK (i := 6) 6 kd43_23.2.2.2.1 rfl ?_
  refine X_iloadn hK (i := 2) 2 kd43_23.2.2.2.2.1 rfl rfl ?_
  refine X_iloadn hK (i := 3) 3 kd43_23.2.2.2.2.2.1 rfl rfl ?_
  refine X_callN hK [.int (iI x6), .int (iI x2), .int (iI x3)] [.ref a0] lk_X1_41 (m_placeOf _ _ _ _ _ S g10 x6 x2 x3 (by omega) (by omega) (by omega)) kd43_23.2.2.2.2.2.2.1 rfl rfl (by simp [Value.category]) (by decide) (by omega) (by omega) (by decide) (fun r11 S13 g12 pr11 qr11 hg12 => ?_)
  obtain ⟨rfl, rfl, z14, rfl, lz14, uz14, k15⟩ := pr11
  refine X_st [.int (iI z14), .ref a0] rfl ?_
  refine X_putF hK fl_X1_47_5002 (fun T9 N9 C9 h9 => by cases (Option.some.inj (h9.symm.trans (rfl : vwCl[2]? = some (RX1, TX1, 11)))); rfl) (hini rfl) hs_a0 (Or.inr (by decide)) (xokr 2 6 (by decide)) rfl rfl kd43_23.2.2.2.2.2.2.2.1 (fun g16 hg16 => ?_)
  exact hret _ _ _ _ _ _ kd43_23.2.2.2.2.2.2.2.2.1 ⟨xNw2.rf, rfl, (fun k9 => match k9 with | 0 => xk1 1 0 sl_2_0 ((xs_k hg16 (by decide)).trans ((xs_k hg10 (by decide)).trans ((xs_k hg9 (by decide)).trans ((xs_k hg8 (by decide)).trans ((xs_k hg7 (by decide)).trans ((xs_k hg6 (by decide)).trans (xs_s hg5))))))) hs_a1 | 1 => xk0 sl_2_1 ((xs_k hg16 (by decide)).trans ((xs_k hg10 (by decide)).trans ((xs_k hg9 (by decide)).trans ((xs_k hg8 (by decide)).trans ((xs_k hg7 (by decide)).trans (xs_s hg6)))))) (by omega) (by omega) | 2 => xk0 sl_2_2 ((xs_k hg16 (by decide)).trans ((xs_k hg10 (by decide)).trans ((xs_k hg9 (by decide)).trans ((xs_k hg8 (by decide)).trans (xs_s hg7))))) (by omega) (by omega) | 3 => xk0 sl_2_3 ((xs_k hg16 (by decide)).trans ((xs_k hg10 (by decide)).trans ((xs_k hg9 (by decide)).trans (xs_s hg8)))) (by omega) (by omega) | 4 => xk0 sl_2_4 ((xs_k hg16 (by decide)).trans ((xs_k hg10 (by decide)).trans (xs_s hg9))) (by omega) (by omega) | 5 => xk0 sl_2_5 ((xs_k hg16 (by decide)).trans (xs_s hg10)) (by omega) (by omega) | 6 => xk0 sl_2_6 (xs_s hg16) (by omega) (by omega) | 7 => xk0 sl_2_7 ((xs_k hg16 (by decide)).trans ((xs_k hg10 (by decide)).trans ((xs_k hg9 (by decide)).trans ((xs_k hg8 (by decide)).trans ((xs_k hg7 (by decide)).trans ((xs_k hg6 (by decide)).trans ((xs_k hg5 (by decide)).trans ((xs_k hg4 (by decide)).trans ((xs_k hg3 (by decide)).trans ((xs_k hg2 (by decide)).trans (xs_s hg1))))))))))) (by omega) (by omega) | 8 => xk0 sl_2_8 ((xs_k hg16 (by decide)).trans ((xs_k hg10 (by decide)).trans ((xs_k hg9 (by decide)).trans ((xs_k hg8 (by decide)).trans ((xs_k hg7 (by decide)).trans ((xs_k hg6 (by decide)).trans ((xs_k hg5 (by decide)).trans ((xs_k hg4 (by decide)).trans ((xs_k hg3 (by decide)).trans (xs_s hg2)))))))))) (by omega) (by omega) | 9 => xk0 sl_2_9 ((xs_k hg16 (by decide)).trans ((xs_k hg10 (by decide)).trans ((xs_k hg9 (by decide)).trans ((xs_k hg8 (by decide)).trans ((xs_k hg7 (by decide)).trans ((xs_k hg6 (by decide)).trans ((xs_k hg5 (by decide)).trans ((xs_k hg4 (by decide)).trans (xs_s hg3))))))))) (by omega) (by omega) | 10 => xk0 sl_2_10 ((xs_k hg16 (by decide)).trans ((xs_k hg10 (by decide)).trans ((xs_k hg9 (by decide)).trans ((xs_k hg8 (by decide)).trans ((xs_k hg7 (by decide)).trans ((xs_k hg6 (by decide)).trans ((xs_k hg5 (by decide)).trans (xs_s hg4)))))))) (by omega) (by omega) | n9 + 11 => xk9 (by rfl)), (by omega), ((xs_k hg16 (by decide)).trans ((xs_k hg10 (by decide)).trans ((xs_k hg9 (by decide)).trans ((xs_k hg8 (by decide)).trans ((xs_k hg7 (by decide)).trans ((xs_k hg6 (by decide)).trans (xs_s hg5))))))), ((xs_k hg16 (by decide)).trans ((xs_k hg10 (by decide)).trans ((xs_k hg9 (by decide)).trans ((xs_k hg8 (by decide)).trans ((xs_k hg7 (by decide)).trans (xs_s hg6)))))), ((xs_k hg16 (by decide)).trans ((xs_k hg10 (by decide)).trans ((xs_k hg9 (by decide)).trans ((xs_k hg8 (by decide)).trans (xs_s hg7))))), ((xs_k hg16 (by decide)).trans ((xs_k hg10 (by decide)).trans ((xs_k hg9 (by decide)).trans (xs_s hg8)))), ((xs_k hg16 (by decide)).trans ((xs_k hg10 (by decide)).trans (xs_s hg9))), ((xs_k hg16 (by decide)).trans (xs_s hg10)), ((xs_s hg16).trans (by rw [show z14 = (4 * x6 + x2) * 10 + x3 by omega])), ((xs_k hg16 (by decide)).trans ((xs_k hg10 (by decide)).trans ((xs_k hg9 (by decide)).trans ((xs_k hg8 (by decide)).trans ((xs_k hg7 (by decide)).trans ((xs_k hg6 (by decide)).trans ((xs_k hg5 (by decide)).trans ((xs_k hg4 (by decide)).trans ((xs_k hg3 (by decide)).trans ((xs_k hg2 (by decide)).trans (xs_s hg1))))))))))), ((xs_k hg16 (by decide)).trans ((xs_k hg10 (by decide)).trans ((xs_k hg9 (by decide)).trans ((xs_k hg8 (by decide)).trans ((xs_k hg7 (by decide)).trans ((xs_k hg6 (by decide)).trans ((xs_k hg5 (by decide)).trans ((xs_k hg4 (by decide)).trans ((xs_k hg3 (by decide)).trans (xs_s hg2)))))))))), ((xs_k hg16 (by decide)).trans ((xs_k hg10 (by decide)).trans ((xs_k hg9 (by decide)).trans ((xs_k hg8 (by decide)).trans ((xs_k hg7 (by decide)).trans ((xs_k hg6 (by decide)).trans ((xs_k hg5 (by decide)).trans ((xs_k hg4 (by decide)).trans (xs_s hg3))))))))), ((xs_k hg16 (by decide)).trans ((xs_k hg10 (by decide)).trans ((xs_k hg9 (by decide)).trans ((xs_k hg8 (by decide)).trans ((xs_k hg7 (by decide)).trans ((xs_k hg6 (by decide)).trans ((xs_k hg5 (by decide)).trans (xs_s hg4))))))))⟩ (by omega) (by omega)

set_option maxHeartbeats 4000000 in
set_option maxRecDepth 100000 in
theorem m_buy (l : Launch) (D : va_G) (kA : Nat → ClassId) (b0 : Nat) (t0 : Nat → Nat) (S : xT) (g : xG) (a0 : Nat) (a1 : Nat) (a2 : Nat) (bn : Nat) (bo : Nat) (ct : Nat) (ow : Nat) (sk : Nat) (fa : Nat) (nu : Int) (nb : Int) (yb : Nat) (nm : Int) (ag : Int) (sc : Int) (fi : Int) (bd : Int) (cn : Int) (pp : Int) (co : Int) (cp : Int) (ho : Int) (dy : Int) (pc : Int) (c8 : Int) (c9 : Int) (ca : Int) (ln : Int) (wk : Nat) (wn : Nat) (wf : Nat) (wb : Nat) (ws : Nat) (U : Int → Nat) (B : Int → Nat) (Y : Nat → Int → Int) (YB : Nat → Int → Int) (T : List xL3) (b : Int) (hs_a0 : S a0 = some (6, 0)) (hs_a1 : S a1 = some (2, 0)) (hs_a2 : S a2 = some (11, 0)) (ebn : g a0 2 = .ref bn) (hs_bn : S bn = some (100, 0)) (ebo : g a0 1 = .ref bo) (hs_bo : S bo = some (0, 0)) (ect : g a0 0 = .ref ct) (hs_ct : S ct = some (4, 0)) (eow : g ct 5 = .ref ow) (hs_ow : S ow = some (11400, 10)) (esk : g ct 0 = .ref sk) (hs_sk : S sk = some (10700, 400)) (efa : g a0 4 = .ref fa) (hs_fa : S fa = some (12000, 12)) (hnu : 0 ≤ nu ∧ nu ≤ 199) (enu : g bn 2 = .int (iI nu)) (hnb : 0 ≤ nb ∧ nb ≤ 40) (enb : g bo 2 = .int (iI nb)) (eyb : g a1 0 = .ref yb) (hs_yb : S yb = some (1, 0)) (hnm : (-2147483648) ≤ nm ∧ nm ≤ 2147483647) (enm : g yb 0 = .int (iI nm)) (hag : (-2147483648) ≤ ag ∧ ag ≤ 2147483647) (eag : g yb 1 = .int (iI ag)) (hsc : 0 ≤ sc ∧ sc ≤ 1) (esc : g yb 2 = .int (iI sc)) (hfi : (-2147483648) ≤ fi ∧ fi ≤ 2147483647) (efi : g yb 3 = .int (iI fi)) (hbd : (-2147483648) ≤ bd ∧ bd ≤ 2147483647) (ebd : g yb 4 = .int (iI bd)) (hcn : (-2147483648) ≤ cn ∧ cn ≤ 2147483647) (ecn : g yb 5 = .int (iI cn)) (hpp : 0 ≤ pp ∧ pp ≤ 3) (epp : g a1 1 = .int (iI pp)) (hco : 0 ≤ co ∧ co ≤ 9) (eco : g a1 2 = .int (iI co)) (hcp : 1 ≤ cp ∧ cp ≤ 1000) (ecp : g a1 3 = .int (iI cp)) (hho : 4 ≤ ho ∧ ho ≤ 20) (eho : g a1 4 = .int (iI ho)) (hdy : 0 ≤ dy ∧ dy ≤ 399) (edy : g a1 5 = .int (iI dy)) (hpc : (-2147483648) ≤ pc ∧ pc ≤ 2147483647) (epc : g a1 6 = .int (iI pc)) (hc8 : 0 ≤ c8 ∧ c8 ≤ 0) (ec8 : g a1 8 = .int (iI c8)) (hc9 : 0 ≤ c9 ∧ c9 ≤ 0) (ec9 : g a1 9 = .int (iI c9)) (hca : 0 ≤ ca ∧ ca ≤ 0) (eca : g a1 10 = .int (iI ca)) (hln : 0 ≤ ln ∧ ln ≤ 16) (eln : g a2 1 = .int (iI ln)) (ewk : g a2 3 = .ref wk) (hs_wk : S wk = some (13600, 16)) (ewn : g a2 4 = .ref wn) (hs_wn : S wn = some (13700, 16)) (ewf : g a2 5 = .ref wf) (hs_wf : S wf = some (13800, 16)) (ewb : g a2 6 = .ref wb) (hs_wb : S wb = some (13900, 16)) (ews : g a2 7 = .ref ws) (hs_ws : S ws = some (14000, 100)) (hp0 : xLs S g) (hp1 : xSi S t0) (hp2 : xUW S g bn nu nb U B Y) (hp3 : xBW S g bo nb B YB) (hp4 : xTc9 (xv g wk) (xv g wn) (xv g wf) (xv g wb) (xv g ws) ln T) (hp5 : yb = B b) (hp6 : 0 ≤ b ∧ b < nb) (hp7 : ∀ k9 : Int, 0 ≤ k9 → k9 < nu → U k9 ≠ a1) (hp8 : pc = (4 * dy + pp) * 10 + co) : xMu l yX5_buy cX5_buy 5 (some .boolean) 7 1 244 164 D kA b0 t0 [(12000, 0), (2, 7), (1, 5), (100, 0), (100, 1), (100, 2), (10203, 0)] [.ref a0, .ref a1, .ref a2] S g (fun (r : Option Value) (S1 : xT) (g1 : xG) (dc ds : Nat) => xNw2 S S1 [10203] ∧ ∃ z : Int, r = some (.int (iI z)) ∧ 0 ≤ z ∧ z ≤ 1 ∧ (xLs S1 g1) ∧ (xSi S1 t0) ∧ (dc ≤ 1 ∧ ds ≤ 244) ∧ ((z = 0 ∧ (xbd9 T (xfct sc ag fi bd (if xv g ow co = nm then 1 else 0) ho dy pp co cp (xv g sk dy)) cp cn) ∧ xUW S1 g1 bn nu nb U B Y ∧ xBW S1 g1 bo nb B YB ∧ g1 bn 2 = .int (iI nu)) ∨ (z = 1 ∧ ¬ (xbd9 T (xfct sc ag fi bd (if xv g ow co = nm then 1 else 0) ho dy pp co cp (xv g sk dy)) cp cn) ∧ xUW S1 g1 bn (nu + 1) nb (fun k9 => if k9 = nu then a1 else U k9) B (xyn Y nu b pp co cp ho dy (xcs9 T (xfct sc ag fi bd (if xv g ow co = nm then 1 else 0) ho dy pp co cp (xv g sk dy)) cp)) ∧ xBW S1 g1 bo nb B (xyu YB 5 b (xwp (cn - (xcs9 T (xfct sc ag fi bd (if xv g ow co = nm then 1 else 0) ho dy pp co cp (xv g sk dy)) cp)))) ∧ g1 bn 2 = .int (iI (nu + 1))))) := by
  refine xEnterUZ (by decide) (by simp [lg_sl, Value.category]) [(0, .ref a0), (1, .ref a1), (2, .ref a2)] rfl ?_
  intro K E hK hret hS0 _ hini ht
  subst ht
  refine X_aloadn hK (i := 0) 0 kd43_23.2.2.2.2.2.2.2.2.2.1 rfl rfl ?_
  refine X_aloadn hK (i := 1) 1 kd43_23.2.2.2.2.2.2.2.2.2.2.1 rfl rfl ?_
  refine X_callV hK [.ref a1] [] lk_X5_92 (m_learn _ _ _ _ _ S g a0 a1 ct ow sk fa yb nm ag sc fi bd pp co cp ho dy hs_a0 hs_a1 ect hs_ct eow hs_ow esk hs_sk efa hs_fa eyb hs_yb (by omega) enm (by omega) eag (by omega) esc (by omega) efi (by omega) ebd (by omega) epp (by omega) eco (by omega) ecp (by omega) eho (by omega) edy) hs_a0 ⟨by decide, rfl⟩ kd43_23.2.2.2.2.2.2.2.2.2.2.2 rfl rfl (by simp [Value.category]) (by decide) (by omega) (by omega) (by decide) (fun r1 S3 g2 pr1 qr1 hg2 => ?_)
  obtain ⟨rfl, rfl, k4⟩ := pr1
  refine X_st [] rfl ?_
  refine X_aloadn hK (i := 1) 1 kd43_24.1 rfl rfl ?_
  refine X_getK hK fl_X5_83_2 hs_a1 ((hg2 a1 2 0 3 hs_a1 (by decide)).trans ecp) kd43_24.2.1 ?_
  refine X_aloadn hK (i := 2) 2 kd43_24.2.2.1 rfl rfl ?_
  refine X_iconst hK kd43_24.2.2.2.1 ?_
  refine X_aloadn hK (i := 0) 0 kd43_24.2.2.2.2.1 rfl rfl ?_
  refine X_getK hK fl_X5_31_6 hs_a0 ((hg2 a0 6 0 4 hs_a0 (by decide)).trans efa) kd43_24.2.2.2.2.2.1 ?_
  refine X_callV hK [.int (iI 0), .ref fa] [.int (iI cp)] lk_X5_96 (m_tells _ _ _ _ _ S g2 a2 0 fa ln wk wn wf wb ws (xfct sc ag fi bd (if xv g ow co = nm then 1 else 0) ho dy pp co cp (xv g sk dy)) T hs_a2 (by omega) hs_fa (by omega) ((hg2 a2 11 0 1 hs_a2 (by decide)).trans eln) ((hg2 a2 11 0 3 hs_a2 (by decide)).trans ewk) hs_wk ((hg2 a2 11 0 4 hs_a2 (by decide)).trans ewn) hs_wn ((hg2 a2 11 0 5 hs_a2 (by decide)).trans ewf) hs_wf ((hg2 a2 11 0 6 hs_a2 (by decide)).trans ewb) hs_wb ((hg2 a2 11 0 7 hs_a2 (by decide)).trans ews) hs_ws k4 (by rw [(xv_m hg2 hs_wk (by decide) (by decide)), (xv_m hg2 hs_wn (by decide) (by decide)), (xv_m hg2 hs_wf (by decide) (by decide)), (xv_m hg2 hs_wb (by decide) (by decide)), (xv_m hg2 hs_ws (by decide) (by decide))]; exact hp4)) hs_a2 ⟨by decide, rfl⟩ kd43_24.2.2.2.2.2.2.1 rfl rfl (by simp [Value.category]) (by decide) (by omega) (by omega) (by decide) (fun r5 S7 g6 pr5 qr5 hg6 => ?_)
  obtain ⟨rfl, rfl, z8, rfl, lz8, uz8, k9⟩ := pr5
  refine X_st [.int (iI z8), .int (iI cp)] rfl ?_
  refine X_callN hK [.int (iI cp), .int (iI z8)] [] lk_X5_102 (m_costOf _ _ _ _ _ S g2 cp z8 (by omega) (by omega)) kd43_24.2.2.2.2.2.2.2.1 rfl rfl (by simp [Value.category]) (by decide) (by omega) (by omega) (by decide) (fun r10 S12 g11 pr10 qr10 hg11 => ?_)
  obtain ⟨rfl, rfl, z13, rfl, lz13, uz13, k14⟩ := pr10
  refine X_st [.int (iI z13)] rfl ?_
  refine X_istoren hK (i := 3) [(3, .int (iI z13)), (0, .ref a0), (1, .ref a1), (2, .ref a2)] kd43_24.2.2.2.2.2.2.2.2.1 rfl (by decide) rfl ?_
  refine X_aloadn hK (i := 1) 2 kd43_24.2.2.2.2.2.2.2.2.2.1 rfl rfl ?_
  refine X_getK hK fl_X5_49_2 hs_a1 ((hg2 a1 2 0 0 hs_a1 (by decide)).trans eyb) kd43_24.2.2.2.2.2.2.2.2.2.2.1 ?_
  refine X_getK hK fl_X5_106_1 hs_yb ((hg2 yb 1 0 5 hs_yb (by decide)).trans ecn) kd43_24.2.2.2.2.2.2.2.2.2.2.2 ?_
  refine X_iloadn hK (i := 3) 0 kd43_25.1 rfl rfl ?_
  refine X_isub hK kd43_25.2.1 ?_
  refine X_norm (fun z15 ez15 lz15 uz15 => ?_)
  refine X_istore hK (i := 4) [(4, .int (iI z15)), (3, .int (iI z13)), (0, .ref a0), (1, .ref a1), (2, .ref a2)] kd43_25.2.2.1 (by decide) rfl ?_
  refine X_aloadn hK (i := 1) 3 kd43_25.2.2.2.1 rfl rfl ?_
  refine X_getK hK fl_X5_83_2 hs_a1 ((hg2 a1 2 0 3 hs_a1 (by decide)).trans ecp) kd43_25.2.2.2.2.1 ?_
  refine X_aloadn hK (i := 2) 4 kd43_25.2.2.2.2.2.1 rfl rfl ?_
  refine X_iconst hK kd43_25.2.2.2.2.2.2.1 ?_
  refine X_aloadn hK (i := 0) 2 kd43_25.2.2.2.2.2.2.2.1 rfl rfl ?_
  refine X_getK hK fl_X5_31_6 hs_a0 ((hg2 a0 6 0 4 hs_a0 (by decide)).trans efa) kd43_25.2.2.2.2.2.2.2.2.1 ?_
  refine X_callV hK [.int (iI 3), .ref fa] [.int (iI cp)] lk_X5_96 (m_tells _ _ _ _ _ S g2 a2 3 fa ln wk wn wf wb ws (xfct sc ag fi bd (if xv g ow co = nm then 1 else 0) ho dy pp co cp (xv g sk dy)) T hs_a2 (by omega) hs_fa (by omega) ((hg2 a2 11 0 1 hs_a2 (by decide)).trans eln) ((hg2 a2 11 0 3 hs_a2 (by decide)).trans ewk) hs_wk ((hg2 a2 11 0 4 hs_a2 (by decide)).trans ewn) hs_wn ((hg2 a2 11 0 5 hs_a2 (by decide)).trans ewf) hs_wf ((hg2 a2 11 0 6 hs_a2 (by decide)).trans ewb) hs_wb ((hg2 a2 11 0 7 hs_a2 (by decide)).trans ews) hs_ws k4 (by rw [(xv_m hg2 hs_wk (by decide) (by decide)), (xv_m hg2 hs_wn (by decide) (by decide)), (xv_m hg2 hs_wf (by decide) (by decide)), (xv_m hg2 hs_wb (by decide) (by decide)), (xv_m hg2 hs_ws (by decide) (by decide))]; exact hp4)) hs_a2 ⟨by decide, rfl⟩ kd43_25.2.2.2.2.2.2.2.2.2.1 rfl rfl (by simp [Value.category]) (by decide) (by omega) (by omega) (by decide) (fun r16 S18 g17 pr16 qr16 hg17 => ?_)
  obtain ⟨rfl, rfl, z19, rfl, lz19, uz19, k20⟩ := pr16
  refine X_st [.int (iI z19), .int (iI cp)] rfl ?_
  refine X_icmp_gt hK 64 (by omega) (by omega) kd43_25.2.2.2.2.2.2.2.2.2.2.1 (by decide) (fun c21 => ?_) (fun c21 => ?_)
  · refine X_iconst hK kd43_26.2.2.2.2.2.2.2.1 ?_
    exact hret _ _ _ _ _ _ _ kd43_26.2.2.2.2.2.2.2.2.1 (by omega) (by omega) ⟨xNw2.rf, 0, rfl, (by omega), (by omega), (xLs_mod hp0 hg2 (by decide)), hp1, (by omega), (Or.inl ⟨rfl, (by unfold xbd9; rw [← k20]; omega), (xUW.m hp2 hg2 xLe.rf (by decide)), (xBW.m hp3 hg2 xLe.rf (by decide)), ((hg2 bn 100 0 2 hs_bn (by decide)).trans enu)⟩)⟩ (by omega) (by omega)
  · refine X_iload hK (i := 4) 0 kd43_25.2.2.2.2.2.2.2.2.2.2.2 rfl ?_
    refine X_aloadn hK (i := 2) 4 kd43_26.1 rfl rfl ?_
    refine X_iconst hK kd43_26.2.1 ?_
    refine X_aloadn hK (i := 0) 2 kd43_26.2.2.1 rfl rfl ?_
    refine X_getK hK fl_X5_31_6 hs_a0 ((hg2 a0 6 0 4 hs_a0 (by decide)).trans efa) kd43_26.2.2.2.1 ?_
    refine X_callV hK [.int (iI 5), .ref fa] [.int (iI z15)] lk_X5_96 (m_tells _ _ _ _ _ S g2 a2 5 fa ln wk wn wf wb ws (xfct sc ag fi bd (if xv g ow co = nm then 1 else 0) ho dy pp co cp (xv g sk dy)) T hs_a2 (by omega) hs_fa (by omega) ((hg2 a2 11 0 1 hs_a2 (by decide)).trans eln) ((hg2 a2 11 0 3 hs_a2 (by decide)).trans ewk) hs_wk ((hg2 a2 11 0 4 hs_a2 (by decide)).trans ewn) hs_wn ((hg2 a2 11 0 5 hs_a2 (by decide)).trans ewf) hs_wf ((hg2 a2 11 0 6 hs_a2 (by decide)).trans ewb) hs_wb ((hg2 a2 11 0 7 hs_a2 (by decide)).trans ews) hs_ws k4 (by rw [(xv_m hg2 hs_wk (by decide) (by decide)), (xv_m hg2 hs_wn (by decide) (by decide)), (xv_m hg2 hs_wf (by decide) (by decide)), (xv_m hg2 hs_wb (by decide) (by decide)), (xv_m hg2 hs_ws (by decide) (by decide))]; exact hp4)) hs_a2 ⟨by decide, rfl⟩ kd43_26.2.2.2.2.1 rfl rfl (by simp [Value.category]) (by decide) (by omega) (by omega) (by decide) (fun r22 S24 g23 pr22 qr22 hg23 => ?_)
    obtain ⟨rfl, rfl, z25, rfl, lz25, uz25, k26⟩ := pr22
    refine X_st [.int (iI z25), .int (iI z15)] rfl ?_
    refine X_ineg hK kd43_26.2.2.2.2.2.1 ?_
    refine X_icmp_ge hK 66 (by omega) (by omega) kd43_26.2.2.2.2.2.2.1 (by decide) (fun c27 => ?_) (fun c27 => ?_)
    · refine X_aloadn hK (i := 1) 3 kd43_26.2.2.2.2.2.2.2.2.2.1 rfl rfl ?_
      refine X_iloadn hK (i := 3) 1 kd43_26.2.2.2.2.2.2.2.2.2.2.1 rfl rfl ?_
      refine X_puti hK fl_X5_109_2 hs_a1 (by decide) sl_2_7 (by omega) (by omega) kd43_26.2.2.2.2.2.2.2.2.2.2.2 (fun g28 hg28 => ?_)
      refine X_aloadn hK (i := 1) 3 kd43_27.1 rfl rfl ?_
      refine X_getK hK fl_X5_49_2 hs_a1 ((xs_k hg28 (by decide)).trans ((hg2 a1 2 0 0 hs_a1 (by decide)).trans eyb)) kd43_27.2.1 ?_
      refine X_iload hK (i := 4) 0 kd43_27.2.2.1 rfl ?_
      refine X_puti hK fl_X5_106_1 hs_yb (by decide) sl_1_5 (by omega) (by omega) kd43_27.2.2.2.1 (fun g29 hg29 => ?_)
      refine X_aloadn hK (i := 0) 2 kd43_27.2.2.2.2.1 rfl rfl ?_
      refine X_getK hK fl_X5_25_6 hs_a0 ((xs_k hg29 (by decide)).trans ((xs_k hg28 (by decide)).trans ((hg2 a0 6 0 2 hs_a0 (by decide)).trans ebn))) kd43_27.2.2.2.2.2.1 ?_
      refine X_aloadn hK (i := 1) 3 kd43_27.2.2.2.2.2.2.1 rfl rfl ?_
      refine X_callVU hK [.ref a1] [] lk_X5_112 (c_addW_100 _ _ _ _ _ S g29 bn a1 nu hs_bn hs_a1 (by omega) ((xs_k hg29 (by decide)).trans ((xs_k hg28 (by decide)).trans ((hg2 bn 100 0 2 hs_bn (by decide)).trans enu))) (xLs_up (xLs_up (xLs_mod hp0 hg2 (by decide)) hg28 hs_a1 (by decide)) hg29 hs_yb (by decide)) hp1) hs_bn ⟨by decide, rfl⟩ kd43_27.2.2.2.2.2.2.2.1 rfl rfl (by simp [Value.category]) (by decide) (by omega) (by omega) (by decide) (fun r30 S32 g31 dcr30 dsr30 pr30 qr30 hg31 => ?_)
      obtain ⟨wr30, z33, rfl, lz33, uz33, k34, k35, k36, k37⟩ := pr30
      refine X_st [.int (iI z33)] rfl ?_
      refine X_pop hK kd43_27.2.2.2.2.2.2.2.2.1 rfl ?_
      refine X_iconst hK kd43_27.2.2.2.2.2.2.2.2.2.1 ?_
      exact hret _ _ _ _ _ _ _ kd43_27.2.2.2.2.2.2.2.2.2.2 (by omega) (by omega) ⟨(xNw2.tr xNw2.rf wr30 (by decide)), 1, rfl, (by omega), (by omega), k34, (xSi.nw hp1 wr30 (by decide)), (by omega), (Or.inr ⟨rfl, (by unfold xbd9; rw [show xcs9 T (xfct sc ag fi bd (if xv g ow co = nm then 1 else 0) ho dy pp co cp (xv g sk dy)) cp = z13 from by unfold xcs9; rw [← k9]; exact k14.symm, show xwp (cn - z13) = z15 from (xwp.of ez15 (by omega)).symm, ← k20, ← k26]; omega), (xUW.add hp2 (by omega) (show xM [(1, 5), (2, 7), (12000, 0)] S g g29 from (xM_up (xM_up (xM.tr xM.rf xLe.rf hg2 (by decide)) hg28 hs_a1 (by decide) (by decide)) hg29 hs_yb (by decide) (by decide))) (by decide) (xFr.m (xFr.t (xFr.w (xFr.m xFr.rf hg2 (by decide)) hg28) hg29 hs_yb (by decide)) hg31 (by decide)) qr30 (xLv.of (qr30 _ _ hs_bn) ((xLs_100 k34).2 bn 0 (qr30 _ _ hs_bn)) k35 (by omega)) k37 (qr30 _ _ hs_a1) hp7 (by rw [← hp5]; exact ((hg31 a1 2 0 0 hs_a1 (by decide)).trans ((xs_k hg29 (by decide)).trans ((xs_k hg28 (by decide)).trans ((hg2 a1 2 0 0 hs_a1 (by decide)).trans eyb))))) hp6 ((hg31 a1 2 0 1 hs_a1 (by decide)).trans ((xs_k hg29 (by decide)).trans ((xs_k hg28 (by decide)).trans ((hg2 a1 2 0 1 hs_a1 (by decide)).trans epp)))) ((hg31 a1 2 0 2 hs_a1 (by decide)).trans ((xs_k hg29 (by decide)).trans ((xs_k hg28 (by decide)).trans ((hg2 a1 2 0 2 hs_a1 (by decide)).trans eco)))) ((hg31 a1 2 0 3 hs_a1 (by decide)).trans ((xs_k hg29 (by decide)).trans ((xs_k hg28 (by decide)).trans ((hg2 a1 2 0 3 hs_a1 (by decide)).trans ecp)))) ((hg31 a1 2 0 4 hs_a1 (by decide)).trans ((xs_k hg29 (by decide)).trans ((xs_k hg28 (by decide)).trans ((hg2 a1 2 0 4 hs_a1 (by decide)).trans eho)))) ((hg31 a1 2 0 5 hs_a1 (by decide)).trans ((xs_a hg29 (xne (qr30 _ _ hs_a1) (qr30 _ _ hs_yb) (by decide))).trans ((xs_k hg28 (by decide)).trans ((hg2 a1 2 0 5 hs_a1 (by decide)).trans edy)))) (by have h9 := ((hg31 a1 2 0 6 hs_a1 (by decide)).trans ((xs_k hg29 (by decide)).trans ((xs_k hg28 (by decide)).trans ((hg2 a1 2 0 6 hs_a1 (by decide)).trans epc)))); rw [hp8] at h9; exact h9) (by rw [show xcs9 T (xfct sc ag fi bd (if xv g ow co = nm then 1 else 0) ho dy pp co cp (xv g sk dy)) cp = z13 from by unfold xcs9; rw [← k9]; exact k14.symm]; exact ((hg31 a1 2 0 7 hs_a1 (by decide)).trans ((xs_k hg29 (by decide)).trans (xs_s hg28)))) (by have h9 := ((hg31 a1 2 0 8 hs_a1 (by decide)).trans ((xs_k hg29 (by decide)).trans ((xs_k hg28 (by decide)).trans ((hg2 a1 2 0 8 hs_a1 (by decide)).trans ec8)))); rw [show c8 = 0 by omega] at h9; exact h9) (by have h9 := ((hg31 a1 2 0 9 hs_a1 (by decide)).trans ((xs_k hg29 (by decide)).trans ((xs_k hg28 (by decide)).trans ((hg2 a1 2 0 9 hs_a1 (by decide)).trans ec9)))); rw [show c9 = 0 by omega] at h9; exact h9) (by have h9 := ((hg31 a1 2 0 10 hs_a1 (by decide)).trans ((xs_k hg29 (by decide)).trans ((xs_k hg28 (by decide)).trans ((hg2 a1 2 0 10 hs_a1 (by decide)).trans eca)))); rw [show ca = 0 by omega] at h9; exact h9) (by omega) (by omega) (by omega) (by omega) (by omega) (by rw [show xcs9 T (xfct sc ag fi bd (if xv g ow co = nm then 1 else 0) ho dy pp co cp (xv g sk dy)) cp = z13 from by unfold xcs9; rw [← k9]; exact k14.symm]; omega)), (xBW.m (xBW.put (c := xwp (cn - (xcs9 T (xfct sc ag fi bd (if xv g ow co = nm then 1 else 0) ho dy pp co cp (xv g sk dy)) cp))) (xBW.m (xBW.m hp3 hg2 xLe.rf (by decide)) (xM_up (L := [(2, 7)]) xM.rf hg28 hs_a1 (by decide) (by decide)) xLe.rf (by decide)) (by omega) (by omega) (by rw [← hp5, show xcs9 T (xfct sc ag fi bd (if xv g ow co = nm then 1 else 0) ho dy pp co cp (xv g sk dy)) cp = z13 from by unfold xcs9; rw [← k9]; exact k14.symm, show xwp (cn - z13) = z15 from (xwp.of ez15 (by omega)).symm]; exact hg29) (xwp.r _)) hg31 qr30 (by decide)), k35⟩)⟩ (by omega) (by omega)
    · refine X_iconst hK kd43_26.2.2.2.2.2.2.2.1 ?_
      exact hret _ _ _ _ _ _ _ kd43_26.2.2.2.2.2.2.2.2.1 (by omega) (by omega) ⟨xNw2.rf, 0, rfl, (by omega), (by omega), (xLs_mod hp0 hg2 (by decide)), hp1, (by omega), (Or.inl ⟨rfl, (by unfold xbd9; rw [show xcs9 T (xfct sc ag fi bd (if xv g ow co = nm then 1 else 0) ho dy pp co cp (xv g sk dy)) cp = z13 from by unfold xcs9; rw [← k9]; exact k14.symm, show xwp (cn - z13) = z15 from (xwp.of ez15 (by omega)).symm, ← k20, ← k26]; omega), (xUW.m hp2 hg2 xLe.rf (by decide)), (xBW.m hp3 hg2 xLe.rf (by decide)), ((hg2 bn 100 0 2 hs_bn (by decide)).trans enu)⟩)⟩ (by omega) (by omega)

set_option maxHeartbeats 4000000 in
set_option maxRecDepth 100000 in
theorem m_bundle (l : Launch) (D : va_G) (kA : Nat → ClassId) (b0 : Nat) (t0 : Nat → Nat) (S : xT) (g : xG) (a0 : Nat) (x1 : Int) (x2 : Int) (x3 : Int) (x4 : Int) (x5 : Int) (td : Int) (m0 : Nat) (bn : Nat) (bo : Nat) (w3 : Nat) (ct : Nat) (ow : Nat) (sk : Nat) (fa : Nat) (nu : Int) (nb : Int) (tx : Nat) (tn : Int) (et : Nat) (U : Int → Nat) (B : Int → Nat) (Y : Nat → Int → Int) (YB : Nat → Int → Int) (Xt : Int → Nat) (TT : Int → List xL3) (fr : Int → Int) (hs_a0 : S a0 = some (12, 0)) (hx1 : (-2147483648) ≤ x1 ∧ x1 ≤ 2147483647) (hx2 : (-2147483648) ≤ x2 ∧ x2 ≤ 2147483647) (hx3 : (-2147483648) ≤ x3 ∧ x3 ≤ 2147483647) (hx4 : (-2147483648) ≤ x4 ∧ x4 ≤ 2147483647) (hx5 : (-2147483648) ≤ x5 ∧ x5 ≤ 2147483647) (htd : 0 ≤ td ∧ td ≤ 400) (etd : g a0 12 = .int (iI td)) (em0 : g a0 1 = .ref m0) (hs_m0 : S m0 = some (6, 0)) (ebn : g m0 2 = .ref bn) (hs_bn : S bn = some (100, 0)) (ebo : g m0 1 = .ref bo) (hs_bo : S bo = some (0, 0)) (ew3 : g m0 3 = .ref w3) (hs_w3 : S w3 = some (200, 0)) (ect : g m0 0 = .ref ct) (hs_ct : S ct = some (4, 0)) (eow : g ct 5 = .ref ow) (hs_ow : S ow = some (11400, 10)) (esk : g ct 0 = .ref sk) (hs_sk : S sk = some (10700, 400)) (efa : g m0 4 = .ref fa) (hs_fa : S fa = some (12000, 12)) (hnu : 0 ≤ nu ∧ nu ≤ 200) (enu : g bn 2 = .int (iI nu)) (hnb : 0 ≤ nb ∧ nb ≤ 40) (enb : g bo 2 = .int (iI nb)) (etx : g a0 4 = .ref tx) (hs_tx : S tx = some (300, 0)) (htn : 0 ≤ tn ∧ tn ≤ 10) (etn : g tx 2 = .int (iI tn)) (eet : g a0 5 = .ref et) (hs_et : S et = some (11, 0)) (hp0 : xLs S g) (hp1 : xSi S t0) (hp2 : xUW S g bn nu nb U B Y) (hp3 : xBW S g bo nb B YB) (hp4 : xXW S g tx tn Xt TT fr) (hp5 : xET S g et) : xMu l yX11_bundle cX11_bundle 7 (some .int) 8 2 255 188 D kA b0 t0 [(5002, 7), (5002, 8), (5002, 9), (5002, 10), (5002, 0), (5002, 1), (5002, 2), (5002, 3), (5002, 4), (5002, 5), (5002, 6), (12000, 0), (2, 7), (1, 5), (100, 0), (100, 1), (100, 2), (10203, 0)] [.ref a0, .int (iI x1), .int (iI x2), .int (iI x3), .int (iI x4), .int (iI x5)] S g (fun (r : Option Value) (S1 : xT) (g1 : xG) (dc ds : Nat) => xNw2 S S1 [5002, 2, 10203] ∧ ∃ z : Int, r = some (.int (iI z)) ∧ (-1) ≤ z ∧ z ≤ 199 ∧ (xLs S1 g1) ∧ (xSi S1 t0) ∧ (dc ≤ 2 ∧ ds ≤ 255) ∧ (∃ n1 : Int, g1 bn 2 = .int (iI n1) ∧ (0 ≤ n1 ∧ n1 ≤ 200) ∧ ∃ (Y1 YB1 : Nat → Int → Int) (U1 : Int → Nat), xUW S1 g1 bn n1 nb U1 B Y1 ∧ xBW S1 g1 bo nb B YB1 ∧ xBd tn fr TT (xfct (YB 2 x1) (YB 1 x1) (YB 3 x1) (YB 4 x1) (if xv g ow x3 = x1 then 1 else 0) x5 td x2 x3 x4 (xv g sk td)) td nu nb x1 x2 x3 x4 x5 Y YB z n1 Y1 YB1)) := by
  refine xEnterUI (by decide) (by simp [lg_sl, Value.category]) [(0, .ref a0), (1, .int (iI x1)), (2, .int (iI x2)), (3, .int (iI x3)), (4, .int (iI x4)), (5, .int (iI x5))] rfl ?_
  intro K E hK hret hS0 _ hini ht
  subst ht
  refine X_aloadn hK (i := 0) 0 kd43_7.2.2.2.2.2.2.2.2.2.2.1 rfl rfl ?_
  refine X_getK hK fl_X11_83_12 hs_a0 etd kd43_7.2.2.2.2.2.2.2.2.2.2.2 ?_
  refine X_sipush hK kd43_8.1 (by decide) ?_
  refine X_icmp_ge hK 74 (by omega) (by omega) kd43_8.2.1 (by decide) (fun c1 => ?_) (fun c1 => ?_)
  · refine X_iconst hK kd43_10.2.2.2.2.2.1 ?_
    exact hret _ _ _ _ _ _ _ kd43_10.2.2.2.2.2.2.1 ⟨xNw2.rf, (-1), rfl, (by omega), (by omega), hp0, hp1, (by omega), ⟨nu, enu, by omega, Y, YB, U, hp2, hp3, (Or.inl ⟨(by unfold xBv; omega), rfl, rfl, rfl, rfl⟩)⟩⟩ (by omega) (by omega)
  · refine X_aloadn hK (i := 0) 0 kd43_8.2.2.1 rfl rfl ?_
    refine X_getK hK fl_X11_19_12 hs_a0 em0 kd43_8.2.2.2.1 ?_
    refine X_getK hK fl_X11_205_6 hs_m0 ebn kd43_8.2.2.2.2.1 ?_
    refine X_callV hK [] [] lk_X11_112 (c_size_100 _ _ _ _ _ S g bn nu hs_bn (by omega) enu hp0) hs_bn ⟨by decide, rfl⟩ kd43_8.2.2.2.2.2.1 rfl rfl (by simp [Value.category]) (by decide) (by omega) (by omega) (by decide) (fun r2 S4 g3 pr2 qr2 hg3 => ?_)
    obtain ⟨rfl, rfl, z5, rfl, lz5, uz5, k6⟩ := pr2
    refine X_st [.int (iI z5)] rfl ?_
    refine X_sipush hK kd43_8.2.2.2.2.2.2.1 (by decide) ?_
    refine X_icmp_ge hK 74 (by omega) (by omega) kd43_8.2.2.2.2.2.2.2.1 (by decide) (fun c7 => ?_) (fun c7 => ?_)
    · refine X_iconst hK kd43_10.2.2.2.2.2.1 ?_
      exact hret _ _ _ _ _ _ _ kd43_10.2.2.2.2.2.2.1 ⟨xNw2.rf, (-1), rfl, (by omega), (by omega), hp0, hp1, (by omega), ⟨nu, enu, by omega, Y, YB, U, hp2, hp3, (Or.inl ⟨(by unfold xBv; omega), rfl, rfl, rfl, rfl⟩)⟩⟩ (by omega) (by omega)
    · refine X_aloadn hK (i := 0) 0 kd43_8.2.2.2.2.2.2.2.2.1 rfl rfl ?_
      refine X_getK hK fl_X11_19_12 hs_a0 em0 kd43_8.2.2.2.2.2.2.2.2.2.1 ?_
      refine X_iloadn hK (i := 1) 1 kd43_8.2.2.2.2.2.2.2.2.2.2.1 rfl rfl ?_
      refine X_callV hK [.int (iI x1)] [] lk_X11_132 (c4_hasBoy _ _ _ _ _ S g m0 x1 bo nb hs_m0 (by omega) ebo hs_bo (by omega) enb hp0) hs_m0 ⟨by decide, rfl⟩ kd43_8.2.2.2.2.2.2.2.2.2.2.2 rfl rfl (by simp [Value.category]) (by decide) (by omega) (by omega) (by decide) (fun r8 S10 g9 pr8 qr8 hg9 => ?_)
      obtain ⟨rfl, rfl, z11, rfl, lz11, uz11, k12⟩ := pr8
      refine X_st [.int (iI z11)] rfl ?_
      refine X_if_eq hK 74 (by omega) kd43_9.1 (by decide) (fun c13 => ?_) (fun c13 => ?_)
      · refine X_iconst hK kd43_10.2.2.2.2.2.1 ?_
        exact hret _ _ _ _ _ _ _ kd43_10.2.2.2.2.2.2.1 ⟨xNw2.rf, (-1), rfl, (by omega), (by omega), hp0, hp1, (by omega), ⟨nu, enu, by omega, Y, YB, U, hp2, hp3, (Or.inl ⟨(by unfold xBv; omega), rfl, rfl, rfl, rfl⟩)⟩⟩ (by omega) (by omega)
      · refine X_iloadn hK (i := 2) 2 kd43_9.2.1 rfl rfl ?_
        refine X_callS hK [.int (iI x2)] [] lk_X11_165 (c_X11_isPaper _ _ _ _ _ S g x2 (by omega)) kd43_9.2.2.1 rfl rfl (by simp [Value.category]) (by decide) (by omega) (by omega) (by decide) (fun r14 S16 g15 pr14 qr14 hg15 => ?_)
        obtain ⟨rfl, rfl, z17, rfl, lz17, uz17, k18⟩ := pr14
        refine X_st [.int (iI z17)] rfl ?_
        refine X_if_eq hK 74 (by omega) kd43_9.2.2.2.1 (by decide) (fun c19 => ?_) (fun c19 => ?_)
        · refine X_iconst hK kd43_10.2.2.2.2.2.1 ?_
          exact hret _ _ _ _ _ _ _ kd43_10.2.2.2.2.2.2.1 ⟨xNw2.rf, (-1), rfl, (by omega), (by omega), hp0, hp1, (by omega), ⟨nu, enu, by omega, Y, YB, U, hp2, hp3, (Or.inl ⟨(by unfold xBv; omega), rfl, rfl, rfl, rfl⟩)⟩⟩ (by omega) (by omega)
        · refine X_iloadn hK (i := 3) 3 kd43_9.2.2.2.2.1 rfl rfl ?_
          refine X_callS hK [.int (iI x3)] [] lk_X11_142 (c_X11_isCorner _ _ _ _ _ S g x3 (by omega)) kd43_9.2.2.2.2.2.1 rfl rfl (by simp [Value.category]) (by decide) (by omega) (by omega) (by decide) (fun r20 S22 g21 pr20 qr20 hg21 => ?_)
          obtain ⟨rfl, rfl, z23, rfl, lz23, uz23, k24⟩ := pr20
          refine X_st [.int (iI z23)] rfl ?_
          refine X_if_eq hK 74 (by omega) kd43_9.2.2.2.2.2.2.1 (by decide) (fun c25 => ?_) (fun c25 => ?_)
          · refine X_iconst hK kd43_10.2.2.2.2.2.1 ?_
            exact hret _ _ _ _ _ _ _ kd43_10.2.2.2.2.2.2.1 ⟨xNw2.rf, (-1), rfl, (by omega), (by omega), hp0, hp1, (by omega), ⟨nu, enu, by omega, Y, YB, U, hp2, hp3, (Or.inl ⟨(by unfold xBv; omega), rfl, rfl, rfl, rfl⟩)⟩⟩ (by omega) (by omega)
          · refine X_iload hK (i := 4) 4 kd43_9.2.2.2.2.2.2.2.1 rfl ?_
            refine X_iconst hK kd43_9.2.2.2.2.2.2.2.2.1 ?_
            refine X_sipush hK kd43_9.2.2.2.2.2.2.2.2.2.1 (by decide) ?_
            refine X_callS hK [.int (iI x4), .int (iI 1), .int (iI 1000)] [] lk_X11_115 (c_X11_within _ _ _ _ _ S g x4 1 1000 (by omega) (by omega) (by omega)) kd43_9.2.2.2.2.2.2.2.2.2.2.1 rfl rfl (by simp [Value.category]) (by decide) (by omega) (by omega) (by decide) (fun r26 S28 g27 pr26 qr26 hg27 => ?_)
            obtain ⟨rfl, rfl, z29, rfl, lz29, uz29, k30⟩ := pr26
            refine X_st [.int (iI z29)] rfl ?_
            refine X_if_eq hK 74 (by omega) kd43_9.2.2.2.2.2.2.2.2.2.2.2 (by decide) (fun c31 => ?_) (fun c31 => ?_)
            · refine X_iconst hK kd43_10.2.2.2.2.2.1 ?_
              exact hret _ _ _ _ _ _ _ kd43_10.2.2.2.2.2.2.1 ⟨xNw2.rf, (-1), rfl, (by omega), (by omega), hp0, hp1, (by omega), ⟨nu, enu, by omega, Y, YB, U, hp2, hp3, (Or.inl ⟨(by unfold xBv; omega), rfl, rfl, rfl, rfl⟩)⟩⟩ (by omega) (by omega)
            · refine X_iload hK (i := 5) 5 kd43_10.1 rfl ?_
              refine X_iconst hK kd43_10.2.1 ?_
              refine X_bipush hK kd43_10.2.2.1 (by decide) ?_
              refine X_callS hK [.int (iI x5), .int (iI 4), .int (iI 20)] [] lk_X11_115 (c_X11_within _ _ _ _ _ S g x5 4 20 (by omega) (by omega) (by omega)) kd43_10.2.2.2.1 rfl rfl (by simp [Value.category]) (by decide) (by omega) (by omega) (by decide) (fun r32 S34 g33 pr32 qr32 hg33 => ?_)
              obtain ⟨rfl, rfl, z35, rfl, lz35, uz35, k36⟩ := pr32
              refine X_st [.int (iI z35)] rfl ?_
              refine X_if_ne hK 76 (by omega) kd43_10.2.2.2.2.1 (by decide) (fun c37 => ?_) (fun c37 => ?_)
              · refine X_new hK nw_X11_208 (by omega) (by omega) kd43_10.2.2.2.2.2.2.2.1 (fun b38 S39 g40 zb38 nb38 hSb38 hg40 qb38 hs_b38 => ?_)
                have A41 : xLs S39 g40 := xLs_al hp0 (hg40 ▸ xM_new (L := []) xM.rf nb38) rfl qb38 (xNw2.one hSb38) (by decide)
                refine X_dup hK kd43_10.2.2.2.2.2.2.2.2.1 rfl ?_
                refine X_aloadn hK (i := 0) 0 kd43_10.2.2.2.2.2.2.2.2.2.1 rfl rfl ?_
                refine X_getK hK fl_X11_19_12 (qb38 _ _ hs_a0) ((xs_n hg40 hs_a0 nb38).trans em0) kd43_10.2.2.2.2.2.2.2.2.2.2.1 ?_
                refine X_getK hK fl_X11_109_6 (qb38 _ _ hs_m0) ((xs_n hg40 hs_m0 nb38).trans ebo) kd43_10.2.2.2.2.2.2.2.2.2.2.2 ?_
                refine X_iloadn hK (i := 1) 1 kd43_11.1 rfl rfl ?_
                refine X_callV hK [.int (iI x1)] [.ref b38, .ref b38] lk_X11_135 (c_get_0 _ _ _ _ _ S39 g40 bo x1 nb (qb38 _ _ hs_bo) (by omega) (by omega) ((xs_n hg40 hs_bo nb38).trans enb) A41 (by omega)) (qb38 _ _ hs_bo) ⟨by decide, rfl⟩ kd43_11.2.1 rfl rfl (by simp [Value.category]) (by decide) (by omega) (by omega) (by decide) (fun r42 S44 g43 pr42 qr42 hg43 => ?_)
                obtain ⟨rfl, rfl, b45, rfl, hs_b45, k46⟩ := pr42
                refine X_st [.ref b45, .ref b38, .ref b38] rfl ?_
                have wbhe47 := (xBW.m hp3 (hg40 ▸ xM_new (L := []) xM.rf nb38) qb38 (by decide))
                have khe47 := wbhe47.2 x1 (by omega) (by omega)
                obtain ⟨kahe47, kshe47, kfhe47, krhe47⟩ := khe47
                unfold xBr at krhe47
                have he47 : b45 = B x1 := k46.trans kahe47
                refine X_cast hK hs_b45 ⟨by decide, rfl⟩ m_12_0 kd43_11.2.2.1 ?_
                refine X_iloadn hK (i := 2) 2 kd43_11.2.2.2.1 rfl rfl ?_
                refine X_iloadn hK (i := 3) 3 kd43_11.2.2.2.2.1 rfl rfl ?_
                refine X_iload hK (i := 4) 4 kd43_11.2.2.2.2.2.1 rfl ?_
                refine X_iload hK (i := 5) 5 kd43_11.2.2.2.2.2.2.1 rfl ?_
                refine X_aloadn hK (i := 0) 0 kd43_11.2.2.2.2.2.2.2.1 rfl rfl ?_
                refine X_getK hK fl_X11_83_12 (qb38 _ _ hs_a0) ((xs_n hg40 hs_a0 nb38).trans etd) kd43_11.2.2.2.2.2.2.2.2.1 ?_
                refine X_callIU hK [.ref b45, .int (iI x2), .int (iI x3), .int (iI x4), .int (iI x5), .int (iI td)] [.ref b38] li_X11_210 (m_init1 _ _ _ _ _ S39 g40 b38 b45 x2 x3 x4 x5 td hs_b38 hs_b45 (by omega) (by omega) (by omega) (by omega) (by omega)) kd43_11.2.2.2.2.2.2.2.2.2.1 rfl rfl (by simp [Value.category]) (by decide) (by omega) (by omega) (by decide) (fun r48 S50 g49 dcr48 dsr48 pr48 qr48 hg49 => ?_)
                obtain ⟨wr48, rfl, k51, k52, k53, k54, k55, k56, k57, k58, k59, k60, k61, k62, k63⟩ := pr48
                have A64 : xLs S50 g49 := xLs_al A41 hg49 (by decide) qr48 wr48 (by decide)
                refine X_st [.ref b38] rfl ?_
                refine X_seal (ci := 2) zb38 (qr48 _ _ hs_b38) (by decide) k51 (fun a9 t9 n9 k9 _ _ _ c9 h9 => Or.inr (h9 ▸ xsl_raw t9 k9 (by omega))) (fun k9 => xsl_raw _ k9 (by omega)) (fun S65 hSy66 hs_y66 hoy66 => ?_)
                have hm9 : xM [(5002, 7), (5002, 8), (5002, 9), (5002, 10), (5002, 0), (5002, 1), (5002, 2), (5002, 3), (5002, 4), (5002, 5), (5002, 6)] S g g49 := xM.tr (hg40 ▸ xM_new (L := [(5002, 7), (5002, 8), (5002, 9), (5002, 10), (5002, 0), (5002, 1), (5002, 2), (5002, 3), (5002, 4), (5002, 5), (5002, 6)]) xM.rf nb38) qb38 hg49 (by decide)
                have hl9 : xLe S S65 := xLe.sl nb38 (xLe.tr qb38 qr48) hSy66
                have hxUW9 := xUW.m hp2 hm9 hl9 (by decide)
                have hxBW9 := xBW.m hp3 hm9 hl9 (by decide)
                have hxXW9 := xXW.m hp4 hm9 hl9 (by decide)
                have hxET9 := xET.m hp5 hm9 hl9 (by decide)
                refine X_astore hK (i := 6) [(6, .ref b38), (0, .ref a0), (1, .int (iI x1)), (2, .int (iI x2)), (3, .int (iI x3)), (4, .int (iI x4)), (5, .int (iI x5))] kd43_11.2.2.2.2.2.2.2.2.2.2.1 (by decide) rfl ?_
                refine X_aloadn hK (i := 0) 1 kd43_11.2.2.2.2.2.2.2.2.2.2.2 rfl rfl ?_
                refine X_getK hK fl_X11_19_12 (xhs_seal hoy66 (qr48 _ _ hs_b38) (qr48 _ _ (qb38 _ _ hs_a0)) (by decide)) ((hg49 a0 12 0 1 (qb38 _ _ hs_a0) (by decide)).trans ((xs_n hg40 hs_a0 nb38).trans em0)) kd43_12.1 ?_
                refine X_aload hK (i := 6) 0 kd43_12.2.1 rfl ?_
                refine X_aloadn hK (i := 0) 1 kd43_12.2.2.1 rfl rfl ?_
                refine X_aloadn hK (i := 0) 1 kd43_12.2.2.2.1 rfl rfl ?_
                refine X_getK hK fl_X11_83_12 (xhs_seal hoy66 (qr48 _ _ hs_b38) (qr48 _ _ (qb38 _ _ hs_a0)) (by decide)) ((hg49 a0 12 0 12 (qb38 _ _ hs_a0) (by decide)).trans ((xs_n hg40 hs_a0 nb38).trans etd)) kd43_12.2.2.2.2.1 ?_
                refine X_callV hK [.int (iI td)] [.ref b38, .ref m0] lk_X11_213 (m_inForce _ _ _ _ _ S65 g49 a0 td tx tn et Xt TT fr (xhs_seal hoy66 (qr48 _ _ hs_b38) (qr48 _ _ (qb38 _ _ hs_a0)) (by decide)) (by omega) ((hg49 a0 12 0 4 (qb38 _ _ hs_a0) (by decide)).trans ((xs_n hg40 hs_a0 nb38).trans etx)) (xhs_seal hoy66 (qr48 _ _ hs_b38) (qr48 _ _ (qb38 _ _ hs_tx)) (by decide)) (by omega) ((hg49 tx 300 0 2 (qb38 _ _ hs_tx) (by decide)).trans ((xs_n hg40 hs_tx nb38).trans etn)) ((hg49 a0 12 0 5 (qb38 _ _ hs_a0) (by decide)).trans ((xs_n hg40 hs_a0 nb38).trans eet)) (xhs_seal hoy66 (qr48 _ _ hs_b38) (qr48 _ _ (qb38 _ _ hs_et)) (by decide)) (xLs_seal A64 (qr48 _ _ hs_b38) hSy66 (by decide) (by decide)) hxXW9 hxET9) (xhs_seal hoy66 (qr48 _ _ hs_b38) (qr48 _ _ (qb38 _ _ hs_a0)) (by decide)) ⟨by decide, rfl⟩ kd43_12.2.2.2.2.2.1 rfl rfl (by simp [Value.category]) (by decide) (by omega) (by omega) (by decide) (fun r67 S69 g68 pr67 qr67 hg68 => ?_)
                obtain ⟨rfl, rfl, b70, rfl, hs_b70, k71⟩ := pr67
                refine X_st [.ref b70, .ref b38, .ref m0] rfl ?_
                obtain ⟨ttf72, ftf72, otf72⟩ := k71
                obtain ⟨zot73, wkot73, wnot73, wfot73, wbot73, wsot73, lnot73, e1ot73, r1ot73, e3ot73, s3ot73, e4ot73, s4ot73, e5ot73, s5ot73, e6ot73, s6ot73, e7ot73, s7ot73, xot73⟩ := otf72
                refine X_callVU hK [.ref b38, .ref b70] [] lk_X11_217 (m_buy _ _ _ _ _ S65 g49 m0 b38 b70 bn bo ct ow sk fa nu nb b45 x1 (YB 1 x1) (YB 2 x1) (YB 3 x1) (YB 4 x1) (YB 5 x1) x2 x3 x4 x5 td ((4 * td + x2) * 10 + x3) 0 0 0 lnot73 wkot73 wnot73 wfot73 wbot73 wsot73 U B Y YB (xTt9 TT ttf72) x1 (xhs_seal hoy66 (qr48 _ _ hs_b38) (qr48 _ _ (qb38 _ _ hs_m0)) (by decide)) hs_y66 hs_b70 ((hg49 m0 6 0 2 (qb38 _ _ hs_m0) (by decide)).trans ((xs_n hg40 hs_m0 nb38).trans ebn)) (xhs_seal hoy66 (qr48 _ _ hs_b38) (qr48 _ _ (qb38 _ _ hs_bn)) (by decide)) ((hg49 m0 6 0 1 (qb38 _ _ hs_m0) (by decide)).trans ((xs_n hg40 hs_m0 nb38).trans ebo)) (xhs_seal hoy66 (qr48 _ _ hs_b38) (qr48 _ _ (qb38 _ _ hs_bo)) (by decide)) ((hg49 m0 6 0 0 (qb38 _ _ hs_m0) (by decide)).trans ((xs_n hg40 hs_m0 nb38).trans ect)) (xhs_seal hoy66 (qr48 _ _ hs_b38) (qr48 _ _ (qb38 _ _ hs_ct)) (by decide)) ((hg49 ct 4 0 5 (qb38 _ _ hs_ct) (by decide)).trans ((xs_n hg40 hs_ct nb38).trans eow)) (xhs_seal hoy66 (qr48 _ _ hs_b38) (qr48 _ _ (qb38 _ _ hs_ow)) (by decide)) ((hg49 ct 4 0 0 (qb38 _ _ hs_ct) (by decide)).trans ((xs_n hg40 hs_ct nb38).trans esk)) (xhs_seal hoy66 (qr48 _ _ hs_b38) (qr48 _ _ (qb38 _ _ hs_sk)) (by decide)) ((hg49 m0 6 0 4 (qb38 _ _ hs_m0) (by decide)).trans ((xs_n hg40 hs_m0 nb38).trans efa)) (xhs_seal hoy66 (qr48 _ _ hs_b38) (qr48 _ _ (qb38 _ _ hs_fa)) (by decide)) (by omega) ((hg49 bn 100 0 2 (qb38 _ _ hs_bn) (by decide)).trans ((xs_n hg40 hs_bn nb38).trans enu)) (by omega) ((hg49 bo 0 0 2 (qb38 _ _ hs_bo) (by decide)).trans ((xs_n hg40 hs_bo nb38).trans enb)) k53 (xhs_seal hoy66 (qr48 _ _ hs_b38) (qr48 _ _ hs_b45) (by decide)) (by omega) ((hg49 b45 1 0 0 hs_b45 (by decide)).trans (show g40 b45 0 = .int (iI x1) from by have h9 := kfhe47 0 (by decide); rw [krhe47.1] at h9; rw [he47]; exact h9)) (by omega) ((hg49 b45 1 0 1 hs_b45 (by decide)).trans (show g40 b45 1 = .int (iI (YB 1 x1)) from by rw [he47]; exact kfhe47 1 (by decide))) (by omega) ((hg49 b45 1 0 2 hs_b45 (by decide)).trans (show g40 b45 2 = .int (iI (YB 2 x1)) from by rw [he47]; exact kfhe47 2 (by decide))) (by omega) ((hg49 b45 1 0 3 hs_b45 (by decide)).trans (show g40 b45 3 = .int (iI (YB 3 x1)) from by rw [he47]; exact kfhe47 3 (by decide))) (by omega) ((hg49 b45 1 0 4 hs_b45 (by decide)).trans (show g40 b45 4 = .int (iI (YB 4 x1)) from by rw [he47]; exact kfhe47 4 (by decide))) (by omega) ((hg49 b45 1 0 5 hs_b45 (by decide)).trans (show g40 b45 5 = .int (iI (YB 5 x1)) from by rw [he47]; exact kfhe47 5 (by decide))) (by omega) k54 (by omega) k55 (by omega) k56 (by omega) k57 (by omega) k58 (by omega) k59 (by omega) k61 (by omega) k62 (by omega) k63 (by omega) e1ot73 e3ot73 s3ot73 e4ot73 s4ot73 e5ot73 s5ot73 e6ot73 s6ot73 e7ot73 s7ot73 (xLs_seal A64 (qr48 _ _ hs_b38) hSy66 (by decide) (by decide)) (xSi.nw (xSi.nw (xSi.nw hp1 (xNw2.one hSb38) (by decide)) wr48 (by decide)) (xNw2.one hSy66) (by decide)) hxUW9 hxBW9 xot73 he47 (by omega) (fun k9 r1 r2 e9 => by have h9 := (hp2.2.1 k9 r1 r2).2.1; rw [e9, nb38] at h9; cases h9) (by omega)) (xhs_seal hoy66 (qr48 _ _ hs_b38) (qr48 _ _ (qb38 _ _ hs_m0)) (by decide)) ⟨by decide, rfl⟩ kd43_12.2.2.2.2.2.2.1 rfl rfl (by simp [Value.category]) (by decide) (by omega) (by omega) (by decide) (fun r74 S76 g75 dcr74 dsr74 pr74 qr74 hg75 => ?_)
                obtain ⟨wr74, z77, rfl, lz77, uz77, k78, k79, k80, k81⟩ := pr74
                refine X_st [.int (iI z77)] rfl ?_
                rw [(Eq.trans (xv_m hg49 (qb38 _ _ hs_ow) (by decide) (by decide)) (xv_n hg40 hs_ow nb38)), (Eq.trans (xv_m hg49 (qb38 _ _ hs_sk) (by decide) (by decide)) (xv_n hg40 hs_sk nb38))] at k81
                obtain ⟨nbu82, enbu82, rnbu82⟩ : ∃ n9 : Int, g75 bn 2 = .int (iI n9) ∧ ((z77 = 0 ∧ n9 = nu) ∨ (z77 = 1 ∧ n9 = nu + 1)) := by rcases k81 with h9 | h9; exact ⟨nu, h9.2.2.2.2, Or.inl ⟨h9.1, rfl⟩⟩; exact ⟨nu + 1, h9.2.2.2.2, Or.inr ⟨h9.1, rfl⟩⟩
                refine X_if_eq hK 144 (by omega) kd43_12.2.2.2.2.2.2.2.1 (by decide) (fun c83 => ?_) (fun c83 => ?_)
                · refine X_iconst hK kd43_13.2.2.2.1 ?_
                  exact hret _ _ _ _ _ _ _ kd43_13.2.2.2.2.1 ⟨(xNw2.tr (xNw2.tr (xNw2.tr (xNw2.tr xNw2.rf (hSb38 ▸ xNw2.set (by decide)) (fun _ h => h)) wr48 (by decide)) (hSy66 ▸ xNw2.set (by decide)) (fun _ h => h)) wr74 (by decide)), (-1), rfl, (by omega), (by omega), k78, k79, (by omega), (by have h9 := (k81.resolve_right (fun q9 => by have h8 := q9.1; omega)); have e9 : nbu82 = nu := (by omega); exact ⟨nbu82, enbu82, by omega, Y, YB, U, by rw [e9]; exact h9.2.2.1, h9.2.2.2.1, Or.inr ⟨(by unfold xBv; omega), ttf72, ftf72, Or.inl ⟨h9.2.1, rfl, e9, rfl, rfl⟩⟩⟩)⟩ (by omega) (by omega)
                · refine X_aloadn hK (i := 0) 1 kd43_12.2.2.2.2.2.2.2.2.1 rfl rfl ?_
                  refine X_getK hK fl_X11_19_12 (qr74 _ _ (xhs_seal hoy66 (qr48 _ _ hs_b38) (qr48 _ _ (qb38 _ _ hs_a0)) (by decide))) ((hg75 a0 12 0 1 (xhs_seal hoy66 (qr48 _ _ hs_b38) (qr48 _ _ (qb38 _ _ hs_a0)) (by decide)) (by decide)).trans ((hg49 a0 12 0 1 (qb38 _ _ hs_a0) (by decide)).trans ((xs_n hg40 hs_a0 nb38).trans em0))) kd43_12.2.2.2.2.2.2.2.2.2.1 ?_
                  refine X_getK hK fl_X11_205_6 (qr74 _ _ (xhs_seal hoy66 (qr48 _ _ hs_b38) (qr48 _ _ (qb38 _ _ hs_m0)) (by decide))) ((hg75 m0 6 0 2 (xhs_seal hoy66 (qr48 _ _ hs_b38) (qr48 _ _ (qb38 _ _ hs_m0)) (by decide)) (by decide)).trans ((hg49 m0 6 0 2 (qb38 _ _ hs_m0) (by decide)).trans ((xs_n hg40 hs_m0 nb38).trans ebn))) kd43_12.2.2.2.2.2.2.2.2.2.2.1 ?_
                  refine X_callV hK [] [] lk_X11_112 (c_size_100 _ _ _ _ _ S76 g75 bn nbu82 (qr74 _ _ (xhs_seal hoy66 (qr48 _ _ hs_b38) (qr48 _ _ (qb38 _ _ hs_bn)) (by decide))) (by omega) enbu82 k78) (qr74 _ _ (xhs_seal hoy66 (qr48 _ _ hs_b38) (qr48 _ _ (qb38 _ _ hs_bn)) (by decide))) ⟨by decide, rfl⟩ kd43_12.2.2.2.2.2.2.2.2.2.2.2 rfl rfl (by simp [Value.category]) (by decide) (by omega) (by omega) (by decide) (fun r84 S86 g85 pr84 qr84 hg85 => ?_)
                  obtain ⟨rfl, rfl, z87, rfl, lz87, uz87, k88⟩ := pr84
                  refine X_st [.int (iI z87)] rfl ?_
                  refine X_iconst hK kd43_13.1 ?_
                  refine X_isub hK kd43_13.2.1 ?_
                  refine X_goto hK 145 kd43_13.2.2.1 (by decide) ?_
                  exact hret _ _ _ _ _ _ _ kd43_13.2.2.2.2.1 ⟨(xNw2.tr (xNw2.tr (xNw2.tr (xNw2.tr xNw2.rf (hSb38 ▸ xNw2.set (by decide)) (fun _ h => h)) wr48 (by decide)) (hSy66 ▸ xNw2.set (by decide)) (fun _ h => h)) wr74 (by decide)), (z87 - 1), rfl, (by omega), (by omega), k78, k79, (by omega), (by have h9 := (k81.resolve_left (fun q9 => by have h8 := q9.1; omega)); have e9 : nbu82 = nu + 1 := (by omega); have r9 : (z87 - 1) = nu := (by omega); exact ⟨nbu82, enbu82, by omega, _, _, _, by rw [e9]; exact h9.2.2.1, h9.2.2.2.1, Or.inr ⟨(by unfold xBv; omega), ttf72, ftf72, Or.inr ⟨h9.2.1, r9, e9, rfl, rfl⟩⟩⟩)⟩ (by omega) (by omega)
              · refine X_iconst hK kd43_10.2.2.2.2.2.1 ?_
                exact hret _ _ _ _ _ _ _ kd43_10.2.2.2.2.2.2.1 ⟨xNw2.rf, (-1), rfl, (by omega), (by omega), hp0, hp1, (by omega), ⟨nu, enu, by omega, Y, YB, U, hp2, hp3, (Or.inl ⟨(by unfold xBv; omega), rfl, rfl, rfl, rfl⟩)⟩⟩ (by omega) (by omega)
