theorem m_2_1 : Cond.initialized RX4 ∈ wsL_law := ch_2 _ (List.mem_of_getElem? (i := 1) rfl)
theorem m_5_14 : Cond.fieldLink RX4 9 "PaperBoys$Ledger" "place" "[I" ∈ wsL_law := ch_5 _ (List.mem_of_getElem? (i := 14) rfl)
theorem m_5_15 : Cond.fieldLink RX4 15 "PaperBoys$Ledger" "copies" "[I" ∈ wsL_law := ch_5 _ (List.mem_of_getElem? (i := 15) rfl)
theorem m_5_16 : Cond.fieldLink RX4 18 "PaperBoys$Ledger" "told" "[I" ∈ wsL_law := ch_5 _ (List.mem_of_getElem? (i := 16) rfl)
theorem m_5_17 : Cond.fieldLink RX4 21 "PaperBoys$Ledger" "size" "I" ∈ wsL_law := ch_5 _ (List.mem_of_getElem? (i := 17) rfl)
theorem m_43_22 : Cond.methodLink RX4 25 yX4_lastAsOf ∈ wsL_law := ch_43 _ (List.mem_of_getElem? (i := 22) rfl)
theorem m_43_23 : Cond.instanceMethod yX4_lastAsOf ∈ wsL_law := ch_43 _ (List.mem_of_getElem? (i := 23) rfl)
theorem m_44_0 : Cond.selects RX4 yX4_lastAsOf yX4_lastAsOf ∈ wsL_law := ch_44 _ (List.mem_of_getElem? (i := 0) rfl)
theorem m_44_1 : Cond.code yX4_lastAsOf cX4_lastAsOf 4 (some .int) ∈ wsL_law := ch_44 _ (List.mem_of_getElem? (i := 1) rfl)
theorem kd24_0 : (decode cX4_add 0 = .ok (.aload_n 0, 1)) ∧ (decode cX4_add 1 = .ok (.getfield 21, 3)) ∧ (decode cX4_add 4 = .ok (.bipush 60, 2)) ∧ (decode cX4_add 6 = .ok (.if_icmp .ge 43, 3)) ∧ (decode cX4_add 9 = .ok (.aload_n 0, 1)) ∧ (decode cX4_add 10 = .ok (.getfield 9, 3)) ∧ (decode cX4_add 13 = .ok (.aload_n 0, 1)) ∧ (decode cX4_add 14 = .ok (.getfield 21, 3)) ∧ (decode cX4_add 17 = .ok (.iload_n 1, 1)) ∧ (decode cX4_add 18 = .ok (.iastore, 1)) ∧ (decode cX4_add 19 = .ok (.aload_n 0, 1)) ∧ (decode cX4_add 20 = .ok (.getfield 15, 3)) := by decide +kernel
theorem kd24_1 : (decode cX4_add 23 = .ok (.aload_n 0, 1)) ∧ (decode cX4_add 24 = .ok (.getfield 21, 3)) ∧ (decode cX4_add 27 = .ok (.iload_n 2, 1)) ∧ (decode cX4_add 28 = .ok (.iastore, 1)) ∧ (decode cX4_add 29 = .ok (.aload_n 0, 1)) ∧ (decode cX4_add 30 = .ok (.getfield 18, 3)) ∧ (decode cX4_add 33 = .ok (.aload_n 0, 1)) ∧ (decode cX4_add 34 = .ok (.getfield 21, 3)) ∧ (decode cX4_add 37 = .ok (.iload_n 3, 1)) ∧ (decode cX4_add 38 = .ok (.iastore, 1)) ∧ (decode cX4_add 39 = .ok (.aload_n 0, 1)) ∧ (decode cX4_add 40 = .ok (.dup, 1)) := by decide +kernel
theorem kd24_2 : (decode cX4_add 41 = .ok (.getfield 21, 3)) ∧ (decode cX4_add 44 = .ok (.iconst 1, 1)) ∧ (decode cX4_add 45 = .ok (.iadd, 1)) ∧ (decode cX4_add 46 = .ok (.putfield 21, 3)) ∧ (decode cX4_add 49 = .ok (.return_, 1)) ∧ (decode cX4_countedAsOf 0 = .ok (.aload_n 0, 1)) ∧ (decode cX4_countedAsOf 1 = .ok (.iload_n 1, 1)) ∧ (decode cX4_countedAsOf 2 = .ok (.iload_n 2, 1)) ∧ (decode cX4_countedAsOf 3 = .ok (.invokevirtual 25, 3)) ∧ (decode cX4_countedAsOf 6 = .ok (.istore_n 3, 1)) ∧ (decode cX4_countedAsOf 7 = .ok (.iload_n 3, 1)) ∧ (decode cX4_countedAsOf 8 = .ok (.iconst (-1), 1)) := by decide +kernel
theorem kd24_3 : (decode cX4_countedAsOf 9 = .ok (.if_icmp .ne 7, 3)) ∧ (decode cX4_countedAsOf 12 = .ok (.iconst 0, 1)) ∧ (decode cX4_countedAsOf 13 = .ok (.goto 9, 3)) ∧ (decode cX4_countedAsOf 16 = .ok (.aload_n 0, 1)) ∧ (decode cX4_countedAsOf 17 = .ok (.getfield 15, 3)) ∧ (decode cX4_countedAsOf 20 = .ok (.iload_n 3, 1)) ∧ (decode cX4_countedAsOf 21 = .ok (.iaload, 1)) ∧ (decode cX4_countedAsOf 22 = .ok (.ireturn, 1)) ∧ (decode cX4_lastAsOf 0 = .ok (.aload_n 0, 1)) ∧ (decode cX4_lastAsOf 1 = .ok (.getfield 21, 3)) ∧ (decode cX4_lastAsOf 4 = .ok (.iconst 1, 1)) ∧ (decode cX4_lastAsOf 5 = .ok (.isub, 1)) := by decide +kernel
theorem kd24_4 : (decode cX4_lastAsOf 6 = .ok (.istore_n 3, 1)) ∧ (decode cX4_lastAsOf 7 = .ok (.iload_n 3, 1)) ∧ (decode cX4_lastAsOf 8 = .ok (.ifCond .lt 31, 3)) ∧ (decode cX4_lastAsOf 11 = .ok (.aload_n 0, 1)) ∧ (decode cX4_lastAsOf 12 = .ok (.getfield 18, 3)) ∧ (decode cX4_lastAsOf 15 = .ok (.iload_n 3, 1)) ∧ (decode cX4_lastAsOf 16 = .ok (.iaload, 1)) ∧ (decode cX4_lastAsOf 17 = .ok (.iload_n 1, 1)) ∧ (decode cX4_lastAsOf 18 = .ok (.if_icmp .gt 15, 3)) ∧ (decode cX4_lastAsOf 21 = .ok (.aload_n 0, 1)) ∧ (decode cX4_lastAsOf 22 = .ok (.getfield 9, 3)) ∧ (decode cX4_lastAsOf 25 = .ok (.iload_n 3, 1)) := by decide +kernel
theorem kd24_5 : (decode cX4_lastAsOf 26 = .ok (.iaload, 1)) ∧ (decode cX4_lastAsOf 27 = .ok (.iload_n 2, 1)) ∧ (decode cX4_lastAsOf 28 = .ok (.if_icmp .ne 5, 3)) ∧ (decode cX4_lastAsOf 31 = .ok (.iload_n 3, 1)) ∧ (decode cX4_lastAsOf 32 = .ok (.ireturn, 1)) ∧ (decode cX4_lastAsOf 33 = .ok (.iinc 3 (-1), 3)) ∧ (decode cX4_lastAsOf 36 = .ok (.goto (-29), 3)) ∧ (decode cX4_lastAsOf 39 = .ok (.iconst (-1), 1)) ∧ (decode cX4_lastAsOf 40 = .ok (.ireturn, 1)) := by decide +kernel
theorem fl_X4_15_5 : xF RX4 15 5 1 (.array .int) true := ⟨by decide, RX4, TX4, 4, tyX4, "PaperBoys$Ledger", rfl, inlX4, tyX4_ok, nmX4, by decide, rfl, rfl, m_5_15, Or.inl rfl⟩
theorem fl_X4_18_5 : xF RX4 18 5 2 (.array .int) true := ⟨by decide, RX4, TX4, 4, tyX4, "PaperBoys$Ledger", rfl, inlX4, tyX4_ok, nmX4, by decide, rfl, rfl, m_5_16, Or.inl rfl⟩
theorem fl_X4_21_5 : xF RX4 21 5 3 .int false := ⟨by decide, RX4, TX4, 4, tyX4, "PaperBoys$Ledger", rfl, inlX4, tyX4_ok, nmX4, by decide, rfl, rfl, m_5_17, Or.inl rfl⟩
theorem fl_X4_9_5 : xF RX4 9 5 0 (.array .int) true := ⟨by decide, RX4, TX4, 4, tyX4, "PaperBoys$Ledger", rfl, inlX4, tyX4_ok, nmX4, by decide, rfl, rfl, m_5_14, Or.inl rfl⟩
theorem lk_X4_25 : xLV RX4 25 yX4_lastAsOf cX4_lastAsOf 4 (some .int) 2 := ⟨m_43_22, m_43_23, m_44_0, m_2_1, m_44_1, by decide +kernel⟩
set_option maxHeartbeats 4000000 in
set_option maxRecDepth 100000 in
theorem c_X4_add (l : Launch) (D : va_G) (kA : Nat → ClassId) (b0 : Nat) (t0 : Nat → Nat) (S : xT) (g : xG) (a0 : Nat) (x1 : Int) (x2 : Int) (x3 : Int) (n0 : Int) (hs_a0 : S a0 = some (5, 0)) (hx1 : (-2147483648) ≤ x1 ∧ x1 ≤ 2147483647) (hx2 : (-2147483648) ≤ x2 ∧ x2 ≤ 2147483647) (hx3 : (-2147483648) ≤ x3 ∧ x3 ≤ 2147483647) (hn0 : 0 ≤ n0 ∧ n0 ≤ 60) (en0 : g a0 3 = .int (iI n0)) : xMt l yX4_add cX4_add 4 none 0 0 0 0 D kA b0 t0 [(11700, 0), (11800, 0), (11900, 0), (5, 3)] [.ref a0, .int (iI x1), .int (iI x2), .int (iI x3)] S g (fun (r : Option Value) (S1 : xT) (g1 : xG) => S = S1 ∧ r = none ∧ (g1 a0 3 = .int (iI (if n0 < 60 then n0 + 1 else n0)))) := by
  refine xEnterV (by decide) (by simp [lg_sl, Value.category]) [(0, .ref a0), (1, .int (iI x1)), (2, .int (iI x2)), (3, .int (iI x3))] rfl ?_
  intro K E hK hret _ _ _
  refine X_aloadn hK (i := 0) 0 kd24_0.1 rfl rfl ?_
  refine X_getK hK fl_X4_21_5 hs_a0 en0 kd24_0.2.1 ?_
  refine X_bipush hK kd24_0.2.2.1 (by decide) ?_
  refine X_icmp_ge hK 49 (by omega) (by omega) kd24_0.2.2.2.1 (by decide) (fun c1 => ?_) (fun c1 => ?_)
  · exact hret _ _ _ _ _ _ kd24_2.2.2.2.2.1 ⟨rfl, rfl, (en0.trans (by congr 2 <;> omega))⟩ (Nat.le_refl _) (Nat.le_refl _)
  · refine X_aloadn hK (i := 0) 0 kd24_0.2.2.2.2.1 rfl rfl ?_
    refine X_getr hK 11700 60 fl_X4_9_5 hs_a0 sl_5_0 kd24_0.2.2.2.2.2.1 (fun b2 eb2 hs_b2 => ?_)
    refine X_aloadn hK (i := 0) 0 kd24_0.2.2.2.2.2.2.1 rfl rfl ?_
    refine X_getK hK fl_X4_21_5 hs_a0 en0 kd24_0.2.2.2.2.2.2.2.1 ?_
    refine X_iloadn hK (i := 1) 1 kd24_0.2.2.2.2.2.2.2.2.1 rfl rfl ?_
    refine X_iast hK hs_b2 (by decide) (by decide) sl_11700 (by omega) (by omega) (by omega) (by omega) kd24_0.2.2.2.2.2.2.2.2.2.1 (fun g3 hg3 => ?_)
    refine X_aloadn hK (i := 0) 0 kd24_0.2.2.2.2.2.2.2.2.2.2.1 rfl rfl ?_
    refine X_getr hK 11800 60 fl_X4_15_5 hs_a0 sl_5_1 kd24_0.2.2.2.2.2.2.2.2.2.2.2 (fun b4 eb4 hs_b4 => ?_)
    refine X_aloadn hK (i := 0) 0 kd24_1.1 rfl rfl ?_
    refine X_getK hK fl_X4_21_5 hs_a0 ((xs_a hg3 (xne hs_a0 hs_b2 (by decide))).trans en0) kd24_1.2.1 ?_
    refine X_iloadn hK (i := 2) 2 kd24_1.2.2.1 rfl rfl ?_
    refine X_iast hK hs_b4 (by decide) (by decide) sl_11800 (by omega) (by omega) (by omega) (by omega) kd24_1.2.2.2.1 (fun g5 hg5 => ?_)
    refine X_aloadn hK (i := 0) 0 kd24_1.2.2.2.2.1 rfl rfl ?_
    refine X_getr hK 11900 60 fl_X4_18_5 hs_a0 sl_5_2 kd24_1.2.2.2.2.2.1 (fun b6 eb6 hs_b6 => ?_)
    refine X_aloadn hK (i := 0) 0 kd24_1.2.2.2.2.2.2.1 rfl rfl ?_
    refine X_getK hK fl_X4_21_5 hs_a0 ((xs_a hg5 (xne hs_a0 hs_b4 (by decide))).trans ((xs_a hg3 (xne hs_a0 hs_b2 (by decide))).trans en0)) kd24_1.2.2.2.2.2.2.2.1 ?_
    refine X_iloadn hK (i := 3) 3 kd24_1.2.2.2.2.2.2.2.2.1 rfl rfl ?_
    refine X_iast hK hs_b6 (by decide) (by decide) sl_11900 (by omega) (by omega) (by omega) (by omega) kd24_1.2.2.2.2.2.2.2.2.2.1 (fun g7 hg7 => ?_)
    refine X_aloadn hK (i := 0) 0 kd24_1.2.2.2.2.2.2.2.2.2.2.1 rfl rfl ?_
    refine X_dup hK kd24_1.2.2.2.2.2.2.2.2.2.2.2 rfl ?_
    refine X_getK hK fl_X4_21_5 hs_a0 ((xs_a hg7 (xne hs_a0 hs_b6 (by decide))).trans ((xs_a hg5 (xne hs_a0 hs_b4 (by decide))).trans ((xs_a hg3 (xne hs_a0 hs_b2 (by decide))).trans en0))) kd24_2.1 ?_
    refine X_iconst hK kd24_2.2.1 ?_
    refine X_iadd hK kd24_2.2.2.1 ?_
    refine X_puti hK fl_X4_21_5 hs_a0 (by decide) sl_5_3 (by omega) (by omega) kd24_2.2.2.2.1 (fun g8 hg8 => ?_)
    exact hret _ _ _ _ _ _ kd24_2.2.2.2.2.1 ⟨rfl, rfl, ((xs_s hg8).trans (by congr 2 <;> omega))⟩ (Nat.le_refl _) (Nat.le_refl _)

set_option maxHeartbeats 4000000 in
set_option maxRecDepth 100000 in
theorem c_X4_lastAsOf (l : Launch) (D : va_G) (kA : Nat → ClassId) (b0 : Nat) (t0 : Nat → Nat) (S : xT) (g : xG) (a0 : Nat) (x1 : Int) (x2 : Int) (hs_a0 : S a0 = some (5, 0)) (hx1 : (-2147483648) ≤ x1 ∧ x1 ≤ 2147483647) (hx2 : (-2147483648) ≤ x2 ∧ x2 ≤ 2147483647) : xMt l yX4_lastAsOf cX4_lastAsOf 4 (some .int) 0 0 0 0 D kA b0 t0 [] [.ref a0, .int (iI x1), .int (iI x2)] S g (fun (r : Option Value) (S1 : xT) (g1 : xG) => S = S1 ∧ g = g1 ∧ ∃ z : Int, r = some (.int (iI z)) ∧ (-1) ≤ z ∧ z ≤ 59) := by
  refine xEnterI (by decide) (by simp [lg_sl, Value.category]) [(0, .ref a0), (1, .int (iI x1)), (2, .int (iI x2))] rfl ?_
  intro K E hK hret _ _ _
  refine X_aloadn hK (i := 0) 0 kd24_3.2.2.2.2.2.2.2.2.1 rfl rfl ?_
  refine X_geti hK fl_X4_21_5 hs_a0 sl_5_3 kd24_3.2.2.2.2.2.2.2.2.2.1 (fun z1 ez1 lz1 uz1 => ?_)
  refine X_iconst hK kd24_3.2.2.2.2.2.2.2.2.2.2.1 ?_
  refine X_isub hK kd24_3.2.2.2.2.2.2.2.2.2.2.2 ?_
  refine X_istoren hK (i := 3) [(3, .int (iI (z1 - 1))), (0, .ref a0), (1, .int (iI x1)), (2, .int (iI x2))] kd24_4.1 rfl (by decide) rfl ?_
  have P34 : ∀ (nP34 : Nat) (z26 : Int) (_ : (-1) ≤ z26) (_ : z26 ≤ 59) (_ : z26 - (-17) < (nP34 : Int)), X K E 7 [(3, .int (iI z26)), (0, .ref a0), (1, .int (iI x1)), (2, .int (iI x2))] [] S g 0 0 := by
    intro nP34
    induction nP34 with
    | zero => intro z26 lz26 uz26 mP34; exact False.elim (by omega)
    | succ nP34 ihP34 =>
      intro z26 lz26 uz26 mP34
      refine X_iloadn hK (i := 3) 0 kd24_4.2.1 rfl rfl ?_
      refine X_if_lt hK 39 (by omega) kd24_4.2.2.1 (by decide) (fun c35 => ?_) (fun c35 => ?_)
      · refine X_iconst hK kd24_5.2.2.2.2.2.2.2.1 ?_
        exact hret _ _ _ _ _ _ _ kd24_5.2.2.2.2.2.2.2.2 ⟨rfl, rfl, (-1), rfl, (by omega), (by omega)⟩ (Nat.le_refl _) (Nat.le_refl _)
      · refine X_aloadn hK (i := 0) 1 kd24_4.2.2.2.1 rfl rfl ?_
        refine X_getr hK 11900 60 fl_X4_18_5 hs_a0 sl_5_2 kd24_4.2.2.2.2.1 (fun b36 eb36 hs_b36 => ?_)
        refine X_iloadn hK (i := 3) 0 kd24_4.2.2.2.2.2.1 rfl rfl ?_
        refine X_iald hK hs_b36 (by decide) sl_11900 (by omega) (by omega) kd24_4.2.2.2.2.2.2.1 (fun z37 ez37 lz37 uz37 => ?_)
        refine X_iloadn hK (i := 1) 2 kd24_4.2.2.2.2.2.2.2.1 rfl rfl ?_
        refine X_icmp_gt hK 33 (by omega) (by omega) kd24_4.2.2.2.2.2.2.2.2.1 (by decide) (fun c38 => ?_) (fun c38 => ?_)
        · refine X_iinc hK (i := 3) (z := z26) (n := (-1)) 0 [(3, .int (iI (z26 + (-1)))), (0, .ref a0), (1, .int (iI x1)), (2, .int (iI x2))] kd24_5.2.2.2.2.2.1 rfl (by decide) rfl ?_
          refine X_goto hK 7 kd24_5.2.2.2.2.2.2.1 (by decide) ?_
          exact ihP34  (z26 + (-1)) (by omega) (by omega) (by omega)
        · refine X_aloadn hK (i := 0) 1 kd24_4.2.2.2.2.2.2.2.2.2.1 rfl rfl ?_
          refine X_getr hK 11700 60 fl_X4_9_5 hs_a0 sl_5_0 kd24_4.2.2.2.2.2.2.2.2.2.2.1 (fun b39 eb39 hs_b39 => ?_)
          refine X_iloadn hK (i := 3) 0 kd24_4.2.2.2.2.2.2.2.2.2.2.2 rfl rfl ?_
          refine X_iald hK hs_b39 (by decide) sl_11700 (by omega) (by omega) kd24_5.1 (fun z40 ez40 lz40 uz40 => ?_)
          refine X_iloadn hK (i := 2) 3 kd24_5.2.1 rfl rfl ?_
          refine X_icmp_ne hK 33 (by omega) (by omega) kd24_5.2.2.1 (by decide) (fun c41 => ?_) (fun c41 => ?_)
          · refine X_iinc hK (i := 3) (z := z26) (n := (-1)) 0 [(3, .int (iI (z26 + (-1)))), (0, .ref a0), (1, .int (iI x1)), (2, .int (iI x2))] kd24_5.2.2.2.2.2.1 rfl (by decide) rfl ?_
            refine X_goto hK 7 kd24_5.2.2.2.2.2.2.1 (by decide) ?_
            exact ihP34  (z26 + (-1)) (by omega) (by omega) (by omega)
          · refine X_iloadn hK (i := 3) 0 kd24_5.2.2.2.1 rfl rfl ?_
            exact hret _ _ _ _ _ _ _ kd24_5.2.2.2.2.1 ⟨rfl, rfl, z26, rfl, (by omega), (by omega)⟩ (Nat.le_refl _) (Nat.le_refl _)
  exact P34 (((z1 - 1) - (-17) : Int).toNat + 1) (z1 - 1) (by omega) (by omega) (by omega)

set_option maxHeartbeats 4000000 in
set_option maxRecDepth 100000 in
theorem c_X4_countedAsOf (l : Launch) (D : va_G) (kA : Nat → ClassId) (b0 : Nat) (t0 : Nat → Nat) (S : xT) (g : xG) (a0 : Nat) (x1 : Int) (x2 : Int) (hs_a0 : S a0 = some (5, 0)) (hx1 : (-2147483648) ≤ x1 ∧ x1 ≤ 2147483647) (hx2 : (-2147483648) ≤ x2 ∧ x2 ≤ 2147483647) : xMt l yX4_countedAsOf cX4_countedAsOf 4 (some .int) 1 0 0 23 D kA b0 t0 [] [.ref a0, .int (iI x1), .int (iI x2)] S g (fun (r : Option Value) (S1 : xT) (g1 : xG) => S = S1 ∧ g = g1 ∧ ∃ z : Int, r = some (.int (iI z)) ∧ (-2147483648) ≤ z ∧ z ≤ 2147483647) := by
  refine xEnterI (by decide) (by simp [lg_sl, Value.category]) [(0, .ref a0), (1, .int (iI x1)), (2, .int (iI x2))] rfl ?_
  intro K E hK hret _ _ _
  refine X_aloadn hK (i := 0) 0 kd24_2.2.2.2.2.2.1 rfl rfl ?_
  refine X_iloadn hK (i := 1) 1 kd24_2.2.2.2.2.2.2.1 rfl rfl ?_
  refine X_iloadn hK (i := 2) 2 kd24_2.2.2.2.2.2.2.2.1 rfl rfl ?_
  refine X_callV hK [.int (iI x1), .int (iI x2)] [] lk_X4_25 (c_X4_lastAsOf _ _ _ _ _ S g a0 x1 x2 hs_a0 (by omega) (by omega)) hs_a0 ⟨by decide, rfl⟩ kd24_2.2.2.2.2.2.2.2.2.1 rfl rfl (by simp [Value.category]) (by decide) (by decide) (by decide) (by decide) (fun r1 S3 g2 pr1 qr1 hg2 => ?_)
  obtain ⟨rfl, rfl, z4, rfl, lz4, uz4⟩ := pr1
  refine X_st [.int (iI z4)] rfl ?_
  refine X_istoren hK (i := 3) [(3, .int (iI z4)), (0, .ref a0), (1, .int (iI x1)), (2, .int (iI x2))] kd24_2.2.2.2.2.2.2.2.2.2.1 rfl (by decide) rfl ?_
  refine X_iloadn hK (i := 3) 0 kd24_2.2.2.2.2.2.2.2.2.2.2.1 rfl rfl ?_
  refine X_iconst hK kd24_2.2.2.2.2.2.2.2.2.2.2.2 ?_
  refine X_icmp_ne hK 16 (by omega) (by omega) kd24_3.1 (by decide) (fun c5 => ?_) (fun c5 => ?_)
  · refine X_aloadn hK (i := 0) 1 kd24_3.2.2.2.1 rfl rfl ?_
    refine X_getr hK 11800 60 fl_X4_15_5 hs_a0 sl_5_1 kd24_3.2.2.2.2.1 (fun b6 eb6 hs_b6 => ?_)
    refine X_iloadn hK (i := 3) 0 kd24_3.2.2.2.2.2.1 rfl rfl ?_
    refine X_iald hK hs_b6 (by decide) sl_11800 (by omega) (by omega) kd24_3.2.2.2.2.2.2.1 (fun z7 ez7 lz7 uz7 => ?_)
    exact hret _ _ _ _ _ _ _ kd24_3.2.2.2.2.2.2.2.1 ⟨rfl, rfl, z7, rfl, (by omega), (by omega)⟩ (Nat.le_refl _) (Nat.le_refl _)
  · refine X_iconst hK kd24_3.2.1 ?_
    refine X_goto hK 22 kd24_3.2.2.1 (by decide) ?_
    exact hret _ _ _ _ _ _ _ kd24_3.2.2.2.2.2.2.2.1 ⟨rfl, rfl, 0, rfl, (by omega), (by omega)⟩ (Nat.le_refl _) (Nat.le_refl _)
