theorem m_9_7 : Cond.fieldLink RX12 99 "PaperBoysModel" "copiesOf" "[I" ∈ wsL_law := ch_9 _ (List.mem_of_getElem? (i := 7) rfl)
theorem m_11_7 : Cond.methodLink RX12 204 yX12_come ∈ wsL_law := ch_11 _ (List.mem_of_getElem? (i := 7) rfl)
theorem m_11_8 : Cond.instanceMethod yX12_come ∈ wsL_law := ch_11 _ (List.mem_of_getElem? (i := 8) rfl)
theorem m_11_9 : Cond.selects RX12 yX12_come yX12_come ∈ wsL_law := ch_11 _ (List.mem_of_getElem? (i := 9) rfl)
theorem m_11_10 : Cond.code yX12_come cX12_come 3 none ∈ wsL_law := ch_11 _ (List.mem_of_getElem? (i := 10) rfl)
theorem m_36_6 : Cond.methodLink RX12 385 yX12_ask ∈ wsL_law := ch_36 _ (List.mem_of_getElem? (i := 6) rfl)
theorem m_36_7 : Cond.instanceMethod yX12_ask ∈ wsL_law := ch_36 _ (List.mem_of_getElem? (i := 7) rfl)
theorem m_36_8 : Cond.selects RX12 yX12_ask yX12_ask ∈ wsL_law := ch_36 _ (List.mem_of_getElem? (i := 8) rfl)
theorem m_36_9 : Cond.code yX12_ask cX12_ask 7 none ∈ wsL_law := ch_36 _ (List.mem_of_getElem? (i := 9) rfl)
theorem kd42_0 : (decode cX12_askOf 0 = .ok (.aload_n 0, 1)) ∧ (decode cX12_askOf 1 = .ok (.aload_n 0, 1)) ∧ (decode cX12_askOf 2 = .ok (.getfield 90, 3)) ∧ (decode cX12_askOf 5 = .ok (.iload_n 1, 1)) ∧ (decode cX12_askOf 6 = .ok (.iaload, 1)) ∧ (decode cX12_askOf 7 = .ok (.aload_n 0, 1)) ∧ (decode cX12_askOf 8 = .ok (.getfield 93, 3)) ∧ (decode cX12_askOf 11 = .ok (.iload_n 1, 1)) ∧ (decode cX12_askOf 12 = .ok (.iaload, 1)) ∧ (decode cX12_askOf 13 = .ok (.aload_n 0, 1)) ∧ (decode cX12_askOf 14 = .ok (.getfield 96, 3)) ∧ (decode cX12_askOf 17 = .ok (.iload_n 1, 1)) := by decide +kernel
theorem kd42_1 : (decode cX12_askOf 18 = .ok (.iaload, 1)) ∧ (decode cX12_askOf 19 = .ok (.aload_n 0, 1)) ∧ (decode cX12_askOf 20 = .ok (.getfield 99, 3)) ∧ (decode cX12_askOf 23 = .ok (.iload_n 1, 1)) ∧ (decode cX12_askOf 24 = .ok (.iaload, 1)) ∧ (decode cX12_askOf 25 = .ok (.aload_n 0, 1)) ∧ (decode cX12_askOf 26 = .ok (.getfield 102, 3)) ∧ (decode cX12_askOf 29 = .ok (.iload_n 1, 1)) ∧ (decode cX12_askOf 30 = .ok (.iaload, 1)) ∧ (decode cX12_askOf 31 = .ok (.aload_n 0, 1)) ∧ (decode cX12_askOf 32 = .ok (.getfield 105, 3)) ∧ (decode cX12_askOf 35 = .ok (.iload_n 1, 1)) := by decide +kernel
theorem kd42_2 : (decode cX12_askOf 36 = .ok (.iaload, 1)) ∧ (decode cX12_askOf 37 = .ok (.invokevirtual 385, 3)) ∧ (decode cX12_askOf 40 = .ok (.return_, 1)) ∧ (decode cX12_end 0 = .ok (.aload_n 0, 1)) ∧ (decode cX12_end 1 = .ok (.iconst 0, 1)) ∧ (decode cX12_end 2 = .ok (.putfield 198, 3)) ∧ (decode cX12_end 5 = .ok (.iload_n 1, 1)) ∧ (decode cX12_end 6 = .ok (.ifCond .lt 11, 3)) ∧ (decode cX12_end 9 = .ok (.iload_n 1, 1)) ∧ (decode cX12_end 10 = .ok (.aload_n 0, 1)) ∧ (decode cX12_end 11 = .ok (.getfield 201, 3)) ∧ (decode cX12_end 14 = .ok (.if_icmp .le 5, 3)) := by decide +kernel
theorem kd42_3 : (decode cX12_end 17 = .ok (.iconst 0, 1)) ∧ (decode cX12_end 18 = .ok (.ireturn, 1)) ∧ (decode cX12_end 19 = .ok (.aload_n 0, 1)) ∧ (decode cX12_end 20 = .ok (.iload_n 1, 1)) ∧ (decode cX12_end 21 = .ok (.putfield 201, 3)) ∧ (decode cX12_end 24 = .ok (.iconst 1, 1)) ∧ (decode cX12_end 25 = .ok (.ireturn, 1)) ∧ (decode cX12_feed 0 = .ok (.aload_n 0, 1)) ∧ (decode cX12_feed 1 = .ok (.iconst 0, 1)) ∧ (decode cX12_feed 2 = .ok (.putfield 198, 3)) ∧ (decode cX12_feed 5 = .ok (.aload_n 0, 1)) ∧ (decode cX12_feed 6 = .ok (.getfield 201, 3)) := by decide +kernel
theorem kd42_4 : (decode cX12_feed 9 = .ok (.bipush 20, 2)) ∧ (decode cX12_feed 11 = .ok (.iadd, 1)) ∧ (decode cX12_feed 12 = .ok (.sipush 420, 3)) ∧ (decode cX12_feed 15 = .ok (.if_icmp .le 5, 3)) ∧ (decode cX12_feed 18 = .ok (.iconst (-1), 1)) ∧ (decode cX12_feed 19 = .ok (.ireturn, 1)) ∧ (decode cX12_feed 20 = .ok (.aload_n 0, 1)) ∧ (decode cX12_feed 21 = .ok (.iload_n 1, 1)) ∧ (decode cX12_feed 22 = .ok (.invokevirtual 204, 3)) ∧ (decode cX12_feed 25 = .ok (.aload_n 0, 1)) ∧ (decode cX12_feed 26 = .ok (.iload_n 2, 1)) ∧ (decode cX12_feed 27 = .ok (.invokevirtual 204, 3)) := by decide +kernel
theorem kd42_5 : (decode cX12_feed 30 = .ok (.aload_n 0, 1)) ∧ (decode cX12_feed 31 = .ok (.iload_n 3, 1)) ∧ (decode cX12_feed 32 = .ok (.invokevirtual 204, 3)) ∧ (decode cX12_feed 35 = .ok (.aload_n 0, 1)) ∧ (decode cX12_feed 36 = .ok (.iload 4, 2)) ∧ (decode cX12_feed 38 = .ok (.invokevirtual 204, 3)) ∧ (decode cX12_feed 41 = .ok (.aload_n 0, 1)) ∧ (decode cX12_feed 42 = .ok (.iload 5, 2)) ∧ (decode cX12_feed 44 = .ok (.invokevirtual 204, 3)) ∧ (decode cX12_feed 47 = .ok (.aload_n 0, 1)) ∧ (decode cX12_feed 48 = .ok (.getfield 201, 3)) ∧ (decode cX12_feed 51 = .ok (.ireturn, 1)) := by decide +kernel
theorem fl_X12_99_13 : xF RX12 99 13 51 (.array .int) true := ⟨by decide, RX12, TX12, 91, tyX12, "PaperBoysModel", rfl, inlX12, tyX12_ok, nmX12, by decide, rfl, rfl, m_9_7, Or.inl rfl⟩
theorem lk_X12_204 : xLV RX12 204 yX12_come cX12_come 3 none 1 := ⟨m_11_7, m_11_8, m_11_9, m_1_5, m_11_10, by decide +kernel⟩
theorem lk_X12_385 : xLV RX12 385 yX12_ask cX12_ask 7 none 6 := ⟨m_36_6, m_36_7, m_36_8, m_1_5, m_36_9, by decide +kernel⟩
set_option maxHeartbeats 4000000 in
set_option maxRecDepth 100000 in
theorem c_X12_feed (l : Launch) (D : va_G) (kA : Nat → ClassId) (b0 : Nat) (t0 : Nat → Nat) (S : xT) (g : xG) (a0 : Nat) (x1 : Int) (x2 : Int) (x3 : Int) (x4 : Int) (x5 : Int) (n0 : Int) (y0 : Nat) (hs_a0 : S a0 = some (13, 0)) (hx1 : (-2147483648) ≤ x1 ∧ x1 ≤ 2147483647) (hx2 : (-2147483648) ≤ x2 ∧ x2 ≤ 2147483647) (hx3 : (-2147483648) ≤ x3 ∧ x3 ≤ 2147483647) (hx4 : (-2147483648) ≤ x4 ∧ x4 ≤ 2147483647) (hx5 : (-2147483648) ≤ x5 ∧ x5 ≤ 2147483647) (hn0 : 0 ≤ n0 ∧ n0 ≤ 420) (en0 : g a0 2 = .int (iI n0)) (ey0 : g a0 1 = .ref y0) (hs_y0 : S y0 = some (14100, 420)) : xMt l yX12_feed cX12_feed 6 (some .int) 1 0 0 22 D kA b0 t0 [(13, 0), (14100, 0), (13, 2)] [.ref a0, .int (iI x1), .int (iI x2), .int (iI x3), .int (iI x4), .int (iI x5)] S g (fun (r : Option Value) (S1 : xT) (g1 : xG) => S = S1 ∧ ∃ z : Int, r = some (.int (iI z)) ∧ (-1) ≤ z ∧ z ≤ 420 ∧ (g1 a0 2 = .int (iI (if n0 ≤ 400 then n0 + 20 else n0))) ∧ (z = if n0 ≤ 400 then n0 + 20 else -1) ∧ (xFe (xv g1 y0) (xv g y0) n0 x1 x2 x3 x4 x5)) := by
  refine xEnterI (by decide) (by simp [lg_sl, Value.category]) [(0, .ref a0), (1, .int (iI x1)), (2, .int (iI x2)), (3, .int (iI x3)), (4, .int (iI x4)), (5, .int (iI x5))] rfl ?_
  intro K E hK hret _ _ _
  refine X_aloadn hK (i := 0) 0 kd42_3.2.2.2.2.2.2.2.1 rfl rfl ?_
  refine X_iconst hK kd42_3.2.2.2.2.2.2.2.2.1 ?_
  refine X_puti hK fl_X12_198_13 hs_a0 (by decide) sl_13_0 (by omega) (by omega) kd42_3.2.2.2.2.2.2.2.2.2.1 (fun g1 hg1 => ?_)
  refine X_aloadn hK (i := 0) 0 kd42_3.2.2.2.2.2.2.2.2.2.2.1 rfl rfl ?_
  refine X_getK hK fl_X12_201_13 hs_a0 ((xs_k hg1 (by decide)).trans en0) kd42_3.2.2.2.2.2.2.2.2.2.2.2 ?_
  refine X_bipush hK kd42_4.1 (by decide) ?_
  refine X_iadd hK kd42_4.2.1 ?_
  refine X_sipush hK kd42_4.2.2.1 (by decide) ?_
  refine X_icmp_le hK 20 (by omega) (by omega) kd42_4.2.2.2.1 (by decide) (fun c2 => ?_) (fun c2 => ?_)
  · refine X_aloadn hK (i := 0) 0 kd42_4.2.2.2.2.2.2.1 rfl rfl ?_
    refine X_iloadn hK (i := 1) 1 kd42_4.2.2.2.2.2.2.2.1 rfl rfl ?_
    refine X_callV hK [.int (iI x1)] [] lk_X12_204 (c_X12_come _ _ _ _ _ S g1 a0 x1 n0 y0 hs_a0 (by omega) (by omega) ((xs_k hg1 (by decide)).trans en0) ((xs_k hg1 (by decide)).trans ey0) hs_y0) hs_a0 ⟨by decide, rfl⟩ kd42_4.2.2.2.2.2.2.2.2.1 rfl rfl (by simp [Value.category]) (by decide) (by decide) (by decide) (by decide) (fun r3 S5 g4 pr3 qr3 hg4 => ?_)
    obtain ⟨rfl, rfl, k6, k7⟩ := pr3
    refine X_st [] rfl ?_
    refine X_aloadn hK (i := 0) 0 kd42_4.2.2.2.2.2.2.2.2.2.1 rfl rfl ?_
    refine X_iloadn hK (i := 2) 2 kd42_4.2.2.2.2.2.2.2.2.2.2.1 rfl rfl ?_
    refine X_callV hK [.int (iI x2)] [] lk_X12_204 (c_X12_come _ _ _ _ _ S g4 a0 x2 (n0 + 4) y0 hs_a0 (by omega) (by omega) k6 ((hg4 a0 13 0 1 hs_a0 (by decide)).trans ((xs_k hg1 (by decide)).trans ey0)) hs_y0) hs_a0 ⟨by decide, rfl⟩ kd42_4.2.2.2.2.2.2.2.2.2.2.2 rfl rfl (by simp [Value.category]) (by decide) (by decide) (by decide) (by decide) (fun r8 S10 g9 pr8 qr8 hg9 => ?_)
    obtain ⟨rfl, rfl, k11, k12⟩ := pr8
    refine X_st [] rfl ?_
    refine X_aloadn hK (i := 0) 0 kd42_5.1 rfl rfl ?_
    refine X_iloadn hK (i := 3) 3 kd42_5.2.1 rfl rfl ?_
    refine X_callV hK [.int (iI x3)] [] lk_X12_204 (c_X12_come _ _ _ _ _ S g9 a0 x3 ((n0 + 4) + 4) y0 hs_a0 (by omega) (by omega) k11 ((hg9 a0 13 0 1 hs_a0 (by decide)).trans ((hg4 a0 13 0 1 hs_a0 (by decide)).trans ((xs_k hg1 (by decide)).trans ey0))) hs_y0) hs_a0 ⟨by decide, rfl⟩ kd42_5.2.2.1 rfl rfl (by simp [Value.category]) (by decide) (by decide) (by decide) (by decide) (fun r13 S15 g14 pr13 qr13 hg14 => ?_)
    obtain ⟨rfl, rfl, k16, k17⟩ := pr13
    refine X_st [] rfl ?_
    refine X_aloadn hK (i := 0) 0 kd42_5.2.2.2.1 rfl rfl ?_
    refine X_iload hK (i := 4) 4 kd42_5.2.2.2.2.1 rfl ?_
    refine X_callV hK [.int (iI x4)] [] lk_X12_204 (c_X12_come _ _ _ _ _ S g14 a0 x4 (((n0 + 4) + 4) + 4) y0 hs_a0 (by omega) (by omega) k16 ((hg14 a0 13 0 1 hs_a0 (by decide)).trans ((hg9 a0 13 0 1 hs_a0 (by decide)).trans ((hg4 a0 13 0 1 hs_a0 (by decide)).trans ((xs_k hg1 (by decide)).trans ey0)))) hs_y0) hs_a0 ⟨by decide, rfl⟩ kd42_5.2.2.2.2.2.1 rfl rfl (by simp [Value.category]) (by decide) (by decide) (by decide) (by decide) (fun r18 S20 g19 pr18 qr18 hg19 => ?_)
    obtain ⟨rfl, rfl, k21, k22⟩ := pr18
    refine X_st [] rfl ?_
    refine X_aloadn hK (i := 0) 0 kd42_5.2.2.2.2.2.2.1 rfl rfl ?_
    refine X_iload hK (i := 5) 5 kd42_5.2.2.2.2.2.2.2.1 rfl ?_
    refine X_callV hK [.int (iI x5)] [] lk_X12_204 (c_X12_come _ _ _ _ _ S g19 a0 x5 ((((n0 + 4) + 4) + 4) + 4) y0 hs_a0 (by omega) (by omega) k21 ((hg19 a0 13 0 1 hs_a0 (by decide)).trans ((hg14 a0 13 0 1 hs_a0 (by decide)).trans ((hg9 a0 13 0 1 hs_a0 (by decide)).trans ((hg4 a0 13 0 1 hs_a0 (by decide)).trans ((xs_k hg1 (by decide)).trans ey0))))) hs_y0) hs_a0 ⟨by decide, rfl⟩ kd42_5.2.2.2.2.2.2.2.2.1 rfl rfl (by simp [Value.category]) (by decide) (by decide) (by decide) (by decide) (fun r23 S25 g24 pr23 qr23 hg24 => ?_)
    obtain ⟨rfl, rfl, k26, k27⟩ := pr23
    refine X_st [] rfl ?_
    refine X_aloadn hK (i := 0) 0 kd42_5.2.2.2.2.2.2.2.2.2.1 rfl rfl ?_
    refine X_getK hK fl_X12_201_13 hs_a0 k26 kd42_5.2.2.2.2.2.2.2.2.2.2.1 ?_
    exact hret _ _ _ _ _ _ _ kd42_5.2.2.2.2.2.2.2.2.2.2.2 ⟨rfl, (((((n0 + 4) + 4) + 4) + 4) + 4), rfl, (by omega), (by omega), (k26.trans (by congr 2 <;> omega)), (by omega), (Or.inl ⟨by omega, _, _, _, _, (by rw [← (xv_a hg1 (xne hs_y0 hs_a0 (by decide)))]; exact k7), k12, k17, k22, k27⟩)⟩ (Nat.le_refl _) (Nat.le_refl _)
  · refine X_iconst hK kd42_4.2.2.2.2.1 ?_
    exact hret _ _ _ _ _ _ _ kd42_4.2.2.2.2.2.1 ⟨rfl, (-1), rfl, (by omega), (by omega), (((xs_k hg1 (by decide)).trans en0).trans (by congr 2 <;> omega)), (by omega), (Or.inr ⟨by omega, (xv_a hg1 (xne hs_y0 hs_a0 (by decide)))⟩)⟩ (Nat.le_refl _) (Nat.le_refl _)

set_option maxHeartbeats 4000000 in
set_option maxRecDepth 100000 in
theorem c_X12_end (l : Launch) (D : va_G) (kA : Nat → ClassId) (b0 : Nat) (t0 : Nat → Nat) (S : xT) (g : xG) (a0 : Nat) (x1 : Int) (n0 : Int) (hs_a0 : S a0 = some (13, 0)) (hx1 : (-2147483648) ≤ x1 ∧ x1 ≤ 2147483647) (hn0 : 0 ≤ n0 ∧ n0 ≤ 420) (en0 : g a0 2 = .int (iI n0)) : xMt l yX12_end cX12_end 2 (some .boolean) 0 0 0 0 D kA b0 t0 [(13, 0), (13, 2)] [.ref a0, .int (iI x1)] S g (fun (r : Option Value) (S1 : xT) (g1 : xG) => S = S1 ∧ ∃ z : Int, r = some (.int (iI z)) ∧ 0 ≤ z ∧ z ≤ 1 ∧ (g1 a0 2 = .int (iI (if 0 ≤ x1 ∧ x1 ≤ n0 then x1 else n0))) ∧ ((z = 1 ↔ 0 ≤ x1 ∧ x1 ≤ n0))) := by
  refine xEnterZ (by decide) (by simp [lg_sl, Value.category]) [(0, .ref a0), (1, .int (iI x1))] rfl ?_
  intro K E hK hret _ _ _
  refine X_aloadn hK (i := 0) 0 kd42_2.2.2.2.1 rfl rfl ?_
  refine X_iconst hK kd42_2.2.2.2.2.1 ?_
  refine X_puti hK fl_X12_198_13 hs_a0 (by decide) sl_13_0 (by omega) (by omega) kd42_2.2.2.2.2.2.1 (fun g1 hg1 => ?_)
  refine X_iloadn hK (i := 1) 1 kd42_2.2.2.2.2.2.2.1 rfl rfl ?_
  refine X_if_lt hK 17 (by omega) kd42_2.2.2.2.2.2.2.2.1 (by decide) (fun c2 => ?_) (fun c2 => ?_)
  · refine X_iconst hK kd42_3.1 ?_
    exact hret _ _ _ _ _ _ _ kd42_3.2.1 (by omega) (by omega) ⟨rfl, 0, rfl, (by omega), (by omega), (((xs_k hg1 (by decide)).trans en0).trans (by congr 2 <;> omega)), (by omega)⟩ (Nat.le_refl _) (Nat.le_refl _)
  · refine X_iloadn hK (i := 1) 1 kd42_2.2.2.2.2.2.2.2.2.1 rfl rfl ?_
    refine X_aloadn hK (i := 0) 0 kd42_2.2.2.2.2.2.2.2.2.2.1 rfl rfl ?_
    refine X_getK hK fl_X12_201_13 hs_a0 ((xs_k hg1 (by decide)).trans en0) kd42_2.2.2.2.2.2.2.2.2.2.2.1 ?_
    refine X_icmp_le hK 19 (by omega) (by omega) kd42_2.2.2.2.2.2.2.2.2.2.2.2 (by decide) (fun c3 => ?_) (fun c3 => ?_)
    · refine X_aloadn hK (i := 0) 0 kd42_3.2.2.1 rfl rfl ?_
      refine X_iloadn hK (i := 1) 1 kd42_3.2.2.2.1 rfl rfl ?_
      refine X_puti hK fl_X12_201_13 hs_a0 (by decide) sl_13_2 (by omega) (by omega) kd42_3.2.2.2.2.1 (fun g4 hg4 => ?_)
      refine X_iconst hK kd42_3.2.2.2.2.2.1 ?_
      exact hret _ _ _ _ _ _ _ kd42_3.2.2.2.2.2.2.1 (by omega) (by omega) ⟨rfl, 1, rfl, (by omega), (by omega), ((xs_s hg4).trans (by congr 2 <;> omega)), (by omega)⟩ (Nat.le_refl _) (Nat.le_refl _)
    · refine X_iconst hK kd42_3.1 ?_
      exact hret _ _ _ _ _ _ _ kd42_3.2.1 (by omega) (by omega) ⟨rfl, 0, rfl, (by omega), (by omega), (((xs_k hg1 (by decide)).trans en0).trans (by congr 2 <;> omega)), (by omega)⟩ (Nat.le_refl _) (Nat.le_refl _)

set_option maxHeartbeats 4000000 in
set_option maxRecDepth 100000 in
theorem c_X12_askOf (l : Launch) (D : va_G) (kA : Nat → ClassId) (b0 : Nat) (t0 : Nat → Nat) (S : xT) (g : xG) (a0 : Nat) (x1 : Int) (hs_a0 : S a0 = some (13, 0)) (hx1 : 0 ≤ x1 ∧ x1 ≤ 199) : xMt l yX12_askOf cX12_askOf 2 none 2 0 0 47 D kA b0 t0 [(16300, 0)] [.ref a0, .int (iI x1)] S g (fun (r : Option Value) (S1 : xT) (g1 : xG) => S = S1 ∧ r = none) := by
  refine xEnterV (by decide) (by simp [lg_sl, Value.category]) [(0, .ref a0), (1, .int (iI x1))] rfl ?_
  intro K E hK hret _ _ _
  refine X_aloadn hK (i := 0) 0 kd42_0.1 rfl rfl ?_
  refine X_aloadn hK (i := 0) 0 kd42_0.2.1 rfl rfl ?_
  refine X_getr hK 16400 200 fl_X12_90_13 hs_a0 sl_13_48 kd42_0.2.2.1 (fun b1 eb1 hs_b1 => ?_)
  refine X_iloadn hK (i := 1) 1 kd42_0.2.2.2.1 rfl rfl ?_
  refine X_iald hK hs_b1 (by decide) sl_16400 (by omega) (by omega) kd42_0.2.2.2.2.1 (fun z2 ez2 lz2 uz2 => ?_)
  refine X_aloadn hK (i := 0) 0 kd42_0.2.2.2.2.2.1 rfl rfl ?_
  refine X_getr hK 16500 200 fl_X12_93_13 hs_a0 sl_13_49 kd42_0.2.2.2.2.2.2.1 (fun b3 eb3 hs_b3 => ?_)
  refine X_iloadn hK (i := 1) 1 kd42_0.2.2.2.2.2.2.2.1 rfl rfl ?_
  refine X_iald hK hs_b3 (by decide) sl_16500 (by omega) (by omega) kd42_0.2.2.2.2.2.2.2.2.1 (fun z4 ez4 lz4 uz4 => ?_)
  refine X_aloadn hK (i := 0) 0 kd42_0.2.2.2.2.2.2.2.2.2.1 rfl rfl ?_
  refine X_getr hK 16600 200 fl_X12_96_13 hs_a0 sl_13_50 kd42_0.2.2.2.2.2.2.2.2.2.2.1 (fun b5 eb5 hs_b5 => ?_)
  refine X_iloadn hK (i := 1) 1 kd42_0.2.2.2.2.2.2.2.2.2.2.2 rfl rfl ?_
  refine X_iald hK hs_b5 (by decide) sl_16600 (by omega) (by omega) kd42_1.1 (fun z6 ez6 lz6 uz6 => ?_)
  refine X_aloadn hK (i := 0) 0 kd42_1.2.1 rfl rfl ?_
  refine X_getr hK 16700 200 fl_X12_99_13 hs_a0 sl_13_51 kd42_1.2.2.1 (fun b7 eb7 hs_b7 => ?_)
  refine X_iloadn hK (i := 1) 1 kd42_1.2.2.2.1 rfl rfl ?_
  refine X_iald hK hs_b7 (by decide) sl_16700 (by omega) (by omega) kd42_1.2.2.2.2.1 (fun z8 ez8 lz8 uz8 => ?_)
  refine X_aloadn hK (i := 0) 0 kd42_1.2.2.2.2.2.1 rfl rfl ?_
  refine X_getr hK 16800 200 fl_X12_102_13 hs_a0 sl_13_52 kd42_1.2.2.2.2.2.2.1 (fun b9 eb9 hs_b9 => ?_)
  refine X_iloadn hK (i := 1) 1 kd42_1.2.2.2.2.2.2.2.1 rfl rfl ?_
  refine X_iald hK hs_b9 (by decide) sl_16800 (by omega) (by omega) kd42_1.2.2.2.2.2.2.2.2.1 (fun z10 ez10 lz10 uz10 => ?_)
  refine X_aloadn hK (i := 0) 0 kd42_1.2.2.2.2.2.2.2.2.2.1 rfl rfl ?_
  refine X_getr hK 16900 200 fl_X12_105_13 hs_a0 sl_13_53 kd42_1.2.2.2.2.2.2.2.2.2.2.1 (fun b11 eb11 hs_b11 => ?_)
  refine X_iloadn hK (i := 1) 1 kd42_1.2.2.2.2.2.2.2.2.2.2.2 rfl rfl ?_
  refine X_iald hK hs_b11 (by decide) sl_16900 (by omega) (by omega) kd42_2.1 (fun z12 ez12 lz12 uz12 => ?_)
  refine X_callV hK [.int (iI z2), .int (iI z4), .int (iI z6), .int (iI z8), .int (iI z10), .int (iI z12)] [] lk_X12_385 (c_X12_ask _ _ _ _ _ S g a0 z2 z4 z6 z8 z10 z12 hs_a0 (by omega) (by omega) (by omega) (by omega) (by omega) (by omega)) hs_a0 ⟨by decide, rfl⟩ kd42_2.2.1 rfl rfl (by simp [Value.category]) (by decide) (by decide) (by decide) (by decide) (fun r13 S15 g14 pr13 qr13 hg14 => ?_)
  obtain ⟨rfl, rfl⟩ := pr13
  refine X_st [] rfl ?_
  exact hret _ _ _ _ _ _ kd42_2.2.2.1 ⟨rfl, rfl⟩ (Nat.le_refl _) (Nat.le_refl _)
