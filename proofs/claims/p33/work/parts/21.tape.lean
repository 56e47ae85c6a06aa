theorem m_3_15 : Cond.fieldLink RX9 9 "PaperBoys$Tape" "bytes" "[I" ∈ wsL_law := ch_3 _ (List.mem_of_getElem? (i := 15) rfl)
theorem m_3_16 : Cond.fieldLink RX9 15 "PaperBoys$Tape" "size" "I" ∈ wsL_law := ch_3 _ (List.mem_of_getElem? (i := 16) rfl)
theorem m_8_2 : Cond.fieldLink RX12 7 "PaperBoysModel" "tape" "[I" ∈ wsL_law := ch_8 _ (List.mem_of_getElem? (i := 2) rfl)
theorem m_11_5 : Cond.fieldLink RX12 198 "PaperBoysModel" "thrown" "I" ∈ wsL_law := ch_11 _ (List.mem_of_getElem? (i := 5) rfl)
theorem m_11_6 : Cond.fieldLink RX12 201 "PaperBoysModel" "taped" "I" ∈ wsL_law := ch_11 _ (List.mem_of_getElem? (i := 6) rfl)
theorem kd21_0 : (decode cX12_come 0 = .ok (.bipush 24, 2)) ∧ (decode cX12_come 2 = .ok (.istore_n 2, 1)) ∧ (decode cX12_come 3 = .ok (.iload_n 2, 1)) ∧ (decode cX12_come 4 = .ok (.ifCond .lt 35, 3)) ∧ (decode cX12_come 7 = .ok (.aload_n 0, 1)) ∧ (decode cX12_come 8 = .ok (.getfield 7, 3)) ∧ (decode cX12_come 11 = .ok (.aload_n 0, 1)) ∧ (decode cX12_come 12 = .ok (.getfield 201, 3)) ∧ (decode cX12_come 15 = .ok (.iload_n 1, 1)) ∧ (decode cX12_come 16 = .ok (.iload_n 2, 1)) ∧ (decode cX12_come 17 = .ok (.iushr, 1)) ∧ (decode cX12_come 18 = .ok (.sipush 255, 3)) := by decide +kernel
theorem kd21_1 : (decode cX12_come 21 = .ok (.iand, 1)) ∧ (decode cX12_come 22 = .ok (.iastore, 1)) ∧ (decode cX12_come 23 = .ok (.aload_n 0, 1)) ∧ (decode cX12_come 24 = .ok (.dup, 1)) ∧ (decode cX12_come 25 = .ok (.getfield 201, 3)) ∧ (decode cX12_come 28 = .ok (.iconst 1, 1)) ∧ (decode cX12_come 29 = .ok (.iadd, 1)) ∧ (decode cX12_come 30 = .ok (.putfield 201, 3)) ∧ (decode cX12_come 33 = .ok (.iinc 2 (-8), 3)) ∧ (decode cX12_come 36 = .ok (.goto (-33), 3)) ∧ (decode cX12_come 39 = .ok (.return_, 1)) ∧ (decode cX12_refuse 0 = .ok (.aload_n 0, 1)) := by decide +kernel
theorem kd21_2 : (decode cX12_refuse 1 = .ok (.iconst 1, 1)) ∧ (decode cX12_refuse 2 = .ok (.putfield 198, 3)) ∧ (decode cX12_refuse 5 = .ok (.iconst 0, 1)) ∧ (decode cX12_refuse 6 = .ok (.ireturn, 1)) ∧ (decode cX12_take 0 = .ok (.aload_n 0, 1)) ∧ (decode cX12_take 1 = .ok (.getfield 201, 3)) ∧ (decode cX12_take 4 = .ok (.istore_n 1, 1)) ∧ (decode cX12_take 5 = .ok (.aload_n 0, 1)) ∧ (decode cX12_take 6 = .ok (.iconst 0, 1)) ∧ (decode cX12_take 7 = .ok (.putfield 201, 3)) ∧ (decode cX12_take 10 = .ok (.iload_n 1, 1)) ∧ (decode cX12_take 11 = .ok (.ireturn, 1)) := by decide +kernel
theorem kd21_3 : (decode cX9_isWeather 0 = .ok (.iconst 0, 1)) ∧ (decode cX9_isWeather 1 = .ok (.istore_n 1, 1)) ∧ (decode cX9_isWeather 2 = .ok (.iload_n 1, 1)) ∧ (decode cX9_isWeather 3 = .ok (.aload_n 0, 1)) ∧ (decode cX9_isWeather 4 = .ok (.getfield 15, 3)) ∧ (decode cX9_isWeather 7 = .ok (.if_icmp .ge 33, 3)) ∧ (decode cX9_isWeather 10 = .ok (.aload_n 0, 1)) ∧ (decode cX9_isWeather 11 = .ok (.getfield 9, 3)) ∧ (decode cX9_isWeather 14 = .ok (.iload_n 1, 1)) ∧ (decode cX9_isWeather 15 = .ok (.iaload, 1)) ∧ (decode cX9_isWeather 16 = .ok (.iconst 4, 1)) ∧ (decode cX9_isWeather 17 = .ok (.if_icmp .lt 17, 3)) := by decide +kernel
theorem kd21_4 : (decode cX9_isWeather 20 = .ok (.aload_n 0, 1)) ∧ (decode cX9_isWeather 21 = .ok (.getfield 9, 3)) ∧ (decode cX9_isWeather 24 = .ok (.iload_n 1, 1)) ∧ (decode cX9_isWeather 25 = .ok (.iaload, 1)) ∧ (decode cX9_isWeather 26 = .ok (.sipush 255, 3)) ∧ (decode cX9_isWeather 29 = .ok (.if_icmp .eq 5, 3)) ∧ (decode cX9_isWeather 32 = .ok (.iconst 0, 1)) ∧ (decode cX9_isWeather 33 = .ok (.ireturn, 1)) ∧ (decode cX9_isWeather 34 = .ok (.iinc 1 1, 3)) ∧ (decode cX9_isWeather 37 = .ok (.goto (-35), 3)) ∧ (decode cX9_isWeather 40 = .ok (.iconst 1, 1)) ∧ (decode cX9_isWeather 41 = .ok (.ireturn, 1)) := by decide +kernel
theorem kd21_5 : (decode cX9_noneAbove 0 = .ok (.iconst 0, 1)) ∧ (decode cX9_noneAbove 1 = .ok (.istore_n 2, 1)) ∧ (decode cX9_noneAbove 2 = .ok (.iload_n 2, 1)) ∧ (decode cX9_noneAbove 3 = .ok (.aload_n 0, 1)) ∧ (decode cX9_noneAbove 4 = .ok (.getfield 15, 3)) ∧ (decode cX9_noneAbove 7 = .ok (.if_icmp .ge 21, 3)) ∧ (decode cX9_noneAbove 10 = .ok (.aload_n 0, 1)) ∧ (decode cX9_noneAbove 11 = .ok (.getfield 9, 3)) ∧ (decode cX9_noneAbove 14 = .ok (.iload_n 2, 1)) ∧ (decode cX9_noneAbove 15 = .ok (.iaload, 1)) ∧ (decode cX9_noneAbove 16 = .ok (.iload_n 1, 1)) ∧ (decode cX9_noneAbove 17 = .ok (.if_icmp .le 5, 3)) := by decide +kernel
theorem kd21_6 : (decode cX9_noneAbove 20 = .ok (.iconst 0, 1)) ∧ (decode cX9_noneAbove 21 = .ok (.ireturn, 1)) ∧ (decode cX9_noneAbove 22 = .ok (.iinc 2 1, 3)) ∧ (decode cX9_noneAbove 25 = .ok (.goto (-23), 3)) ∧ (decode cX9_noneAbove 28 = .ok (.iconst 1, 1)) ∧ (decode cX9_noneAbove 29 = .ok (.ireturn, 1)) ∧ (decode cX9_pairAt 0 = .ok (.iconst 2, 1)) ∧ (decode cX9_pairAt 1 = .ok (.iload_n 1, 1)) ∧ (decode cX9_pairAt 2 = .ok (.imul, 1)) ∧ (decode cX9_pairAt 3 = .ok (.istore_n 2, 1)) ∧ (decode cX9_pairAt 4 = .ok (.iload_n 2, 1)) ∧ (decode cX9_pairAt 5 = .ok (.ifCond .lt 35, 3)) := by decide +kernel
theorem kd21_7 : (decode cX9_pairAt 8 = .ok (.iload_n 2, 1)) ∧ (decode cX9_pairAt 9 = .ok (.iconst 1, 1)) ∧ (decode cX9_pairAt 10 = .ok (.iadd, 1)) ∧ (decode cX9_pairAt 11 = .ok (.aload_n 0, 1)) ∧ (decode cX9_pairAt 12 = .ok (.getfield 15, 3)) ∧ (decode cX9_pairAt 15 = .ok (.if_icmp .ge 25, 3)) ∧ (decode cX9_pairAt 18 = .ok (.aload_n 0, 1)) ∧ (decode cX9_pairAt 19 = .ok (.getfield 9, 3)) ∧ (decode cX9_pairAt 22 = .ok (.iload_n 2, 1)) ∧ (decode cX9_pairAt 23 = .ok (.iaload, 1)) ∧ (decode cX9_pairAt 24 = .ok (.sipush 256, 3)) ∧ (decode cX9_pairAt 27 = .ok (.imul, 1)) := by decide +kernel
theorem kd21_8 : (decode cX9_pairAt 28 = .ok (.aload_n 0, 1)) ∧ (decode cX9_pairAt 29 = .ok (.getfield 9, 3)) ∧ (decode cX9_pairAt 32 = .ok (.iload_n 2, 1)) ∧ (decode cX9_pairAt 33 = .ok (.iconst 1, 1)) ∧ (decode cX9_pairAt 34 = .ok (.iadd, 1)) ∧ (decode cX9_pairAt 35 = .ok (.iaload, 1)) ∧ (decode cX9_pairAt 36 = .ok (.iadd, 1)) ∧ (decode cX9_pairAt 37 = .ok (.goto 4, 3)) ∧ (decode cX9_pairAt 40 = .ok (.iconst 0, 1)) ∧ (decode cX9_pairAt 41 = .ok (.ireturn, 1)) ∧ (decode cX9_put 0 = .ok (.bipush 24, 2)) ∧ (decode cX9_put 2 = .ok (.istore_n 2, 1)) := by decide +kernel
theorem kd21_9 : (decode cX9_put 3 = .ok (.iload_n 2, 1)) ∧ (decode cX9_put 4 = .ok (.ifCond .lt 47, 3)) ∧ (decode cX9_put 7 = .ok (.aload_n 0, 1)) ∧ (decode cX9_put 8 = .ok (.getfield 15, 3)) ∧ (decode cX9_put 11 = .ok (.aload_n 0, 1)) ∧ (decode cX9_put 12 = .ok (.getfield 9, 3)) ∧ (decode cX9_put 15 = .ok (.arraylength, 1)) ∧ (decode cX9_put 16 = .ok (.if_icmp .ge 35, 3)) ∧ (decode cX9_put 19 = .ok (.aload_n 0, 1)) ∧ (decode cX9_put 20 = .ok (.getfield 9, 3)) ∧ (decode cX9_put 23 = .ok (.aload_n 0, 1)) ∧ (decode cX9_put 24 = .ok (.getfield 15, 3)) := by decide +kernel
theorem kd21_10 : (decode cX9_put 27 = .ok (.iload_n 1, 1)) ∧ (decode cX9_put 28 = .ok (.iload_n 2, 1)) ∧ (decode cX9_put 29 = .ok (.iushr, 1)) ∧ (decode cX9_put 30 = .ok (.sipush 255, 3)) ∧ (decode cX9_put 33 = .ok (.iand, 1)) ∧ (decode cX9_put 34 = .ok (.iastore, 1)) ∧ (decode cX9_put 35 = .ok (.aload_n 0, 1)) ∧ (decode cX9_put 36 = .ok (.dup, 1)) ∧ (decode cX9_put 37 = .ok (.getfield 15, 3)) ∧ (decode cX9_put 40 = .ok (.iconst 1, 1)) ∧ (decode cX9_put 41 = .ok (.iadd, 1)) ∧ (decode cX9_put 42 = .ok (.putfield 15, 3)) := by decide +kernel
theorem kd21_11 : (decode cX9_put 45 = .ok (.iinc 2 (-8), 3)) ∧ (decode cX9_put 48 = .ok (.goto (-45), 3)) ∧ (decode cX9_put 51 = .ok (.return_, 1)) := by decide +kernel
theorem fl_X12_198_13 : xF RX12 198 13 0 .int false := ⟨by decide, RX12, TX12, 91, tyX12, "PaperBoysModel", rfl, inlX12, tyX12_ok, nmX12, by decide, rfl, rfl, m_11_5, Or.inl rfl⟩
theorem fl_X12_201_13 : xF RX12 201 13 2 .int false := ⟨by decide, RX12, TX12, 91, tyX12, "PaperBoysModel", rfl, inlX12, tyX12_ok, nmX12, by decide, rfl, rfl, m_11_6, Or.inl rfl⟩
theorem fl_X12_7_13 : xF RX12 7 13 1 (.array .int) true := ⟨by decide, RX12, TX12, 91, tyX12, "PaperBoysModel", rfl, inlX12, tyX12_ok, nmX12, by decide, rfl, rfl, m_8_2, Or.inl rfl⟩
theorem fl_X9_15_10 : xF RX9 15 10 1 .int false := ⟨by decide, RX9, TX9, 2, tyX9, "PaperBoys$Tape", rfl, inlX9, tyX9_ok, nmX9, by decide, rfl, rfl, m_3_16, Or.inl rfl⟩
theorem fl_X9_9_10 : xF RX9 9 10 0 (.array .int) true := ⟨by decide, RX9, TX9, 2, tyX9, "PaperBoys$Tape", rfl, inlX9, tyX9_ok, nmX9, by decide, rfl, rfl, m_3_15, Or.inl rfl⟩
set_option maxHeartbeats 4000000 in
set_option maxRecDepth 100000 in
theorem c_X9_put (l : Launch) (D : va_G) (kA : Nat → ClassId) (b0 : Nat) (t0 : Nat → Nat) (S : xT) (g : xG) (a0 : Nat) (x1 : Int) (n0 : Int) (y0 : Nat) (hs_a0 : S a0 = some (10, 0)) (hx1 : (-2147483648) ≤ x1 ∧ x1 ≤ 2147483647) (hn0 : 0 ≤ n0 ∧ n0 ≤ 416) (en0 : g a0 1 = .int (iI n0)) (ey0 : g a0 0 = .ref y0) (hs_y0 : S y0 = some (13500, 420)) : xMt l yX9_put cX9_put 3 none 0 0 0 0 D kA b0 t0 [(13500, 0), (10, 1)] [.ref a0, .int (iI x1)] S g (fun (r : Option Value) (S1 : xT) (g1 : xG) => S = S1 ∧ r = none ∧ (g1 a0 1 = .int (iI (n0 + 4))) ∧ (xPut (xv g1 y0) (xv g y0) n0 x1)) := by
  refine xEnterV (by decide) (by simp [lg_sl, Value.category]) [(0, .ref a0), (1, .int (iI x1))] rfl ?_
  intro K E hK hret _ _ _
  refine X_bipush hK kd21_8.2.2.2.2.2.2.2.2.2.2.1 (by decide) ?_
  refine X_istoren hK (i := 2) [(2, .int (iI 24)), (0, .ref a0), (1, .int (iI x1))] kd21_8.2.2.2.2.2.2.2.2.2.2.2 rfl (by decide) rfl ?_
  refine X_iloadn hK (i := 2) 0 kd21_9.1 rfl rfl ?_
  refine X_if_lt hK 51 (by omega) kd21_9.2.1 (by decide) (fun c1 => False.elim (by omega)) (fun c1 => ?_)
  refine X_aloadn hK (i := 0) 1 kd21_9.2.2.1 rfl rfl ?_
  refine X_getK hK fl_X9_15_10 hs_a0 en0 kd21_9.2.2.2.1 ?_
  refine X_aloadn hK (i := 0) 1 kd21_9.2.2.2.2.1 rfl rfl ?_
  refine X_getK hK fl_X9_9_10 hs_a0 ey0 kd21_9.2.2.2.2.2.1 ?_
  refine X_alen hK (i := 0) (ty := .int) hs_y0 (by decide) (by decide) (fun _ => rfl) kd21_9.2.2.2.2.2.2.1 ?_
  refine X_icmp_ge hK 51 (by omega) (by omega) kd21_9.2.2.2.2.2.2.2.1 (by decide) (fun c2 => False.elim (by omega)) (fun c2 => ?_)
  refine X_aloadn hK (i := 0) 1 kd21_9.2.2.2.2.2.2.2.2.1 rfl rfl ?_
  refine X_getK hK fl_X9_9_10 hs_a0 ey0 kd21_9.2.2.2.2.2.2.2.2.2.1 ?_
  refine X_aloadn hK (i := 0) 1 kd21_9.2.2.2.2.2.2.2.2.2.2.1 rfl rfl ?_
  refine X_getK hK fl_X9_15_10 hs_a0 en0 kd21_9.2.2.2.2.2.2.2.2.2.2.2 ?_
  refine X_iloadn hK (i := 1) 2 kd21_10.1 rfl rfl ?_
  refine X_iloadn hK (i := 2) 0 kd21_10.2.1 rfl rfl ?_
  refine X_iushr hK kd21_10.2.2.1 (fun z3 ez3 lz3 uz3 => ?_)
  refine X_sipush hK kd21_10.2.2.2.1 (by decide) ?_
  refine X_iand hK kd21_10.2.2.2.2.1 (fun z4 ez4 lz4 uz4 => ?_)
  have bz4 := xandB ez4 ⟨lz4, uz4⟩ (by omega)
  refine X_iast hK hs_y0 (by decide) (by decide) sl_13500 (by omega) (by omega) (by omega) (by omega) kd21_10.2.2.2.2.2.1 (fun g5 hg5 => ?_)
  refine X_aloadn hK (i := 0) 1 kd21_10.2.2.2.2.2.2.1 rfl rfl ?_
  refine X_dup hK kd21_10.2.2.2.2.2.2.2.1 rfl ?_
  refine X_getK hK fl_X9_15_10 hs_a0 ((xs_a hg5 (xne hs_a0 hs_y0 (by decide))).trans en0) kd21_10.2.2.2.2.2.2.2.2.1 ?_
  refine X_iconst hK kd21_10.2.2.2.2.2.2.2.2.2.1 ?_
  refine X_iadd hK kd21_10.2.2.2.2.2.2.2.2.2.2.1 ?_
  refine X_puti hK fl_X9_15_10 hs_a0 (by decide) sl_10_1 (by omega) (by omega) kd21_10.2.2.2.2.2.2.2.2.2.2.2 (fun g6 hg6 => ?_)
  refine X_iinc hK (i := 2) (z := 24) (n := (-8)) 0 [(2, .int (iI (24 + (-8)))), (0, .ref a0), (1, .int (iI x1))] kd21_11.1 rfl (by decide) rfl ?_
  refine X_goto hK 3 kd21_11.2.1 (by decide) ?_
  refine X_iloadn hK (i := 2) 0 kd21_9.1 rfl rfl ?_
  refine X_if_lt hK 51 (by omega) kd21_9.2.1 (by decide) (fun c7 => False.elim (by omega)) (fun c7 => ?_)
  refine X_aloadn hK (i := 0) 1 kd21_9.2.2.1 rfl rfl ?_
  refine X_getK hK fl_X9_15_10 hs_a0 (xs_s hg6) kd21_9.2.2.2.1 ?_
  refine X_aloadn hK (i := 0) 1 kd21_9.2.2.2.2.1 rfl rfl ?_
  refine X_getK hK fl_X9_9_10 hs_a0 ((xs_k hg6 (by decide)).trans ((xs_a hg5 (xne hs_a0 hs_y0 (by decide))).trans ey0)) kd21_9.2.2.2.2.2.1 ?_
  refine X_alen hK (i := 0) (ty := .int) hs_y0 (by decide) (by decide) (fun _ => rfl) kd21_9.2.2.2.2.2.2.1 ?_
  refine X_icmp_ge hK 51 (by omega) (by omega) kd21_9.2.2.2.2.2.2.2.1 (by decide) (fun c8 => False.elim (by omega)) (fun c8 => ?_)
  refine X_aloadn hK (i := 0) 1 kd21_9.2.2.2.2.2.2.2.2.1 rfl rfl ?_
  refine X_getK hK fl_X9_9_10 hs_a0 ((xs_k hg6 (by decide)).trans ((xs_a hg5 (xne hs_a0 hs_y0 (by decide))).trans ey0)) kd21_9.2.2.2.2.2.2.2.2.2.1 ?_
  refine X_aloadn hK (i := 0) 1 kd21_9.2.2.2.2.2.2.2.2.2.2.1 rfl rfl ?_
  refine X_getK hK fl_X9_15_10 hs_a0 (xs_s hg6) kd21_9.2.2.2.2.2.2.2.2.2.2.2 ?_
  refine X_iloadn hK (i := 1) 2 kd21_10.1 rfl rfl ?_
  refine X_iloadn hK (i := 2) 0 kd21_10.2.1 rfl rfl ?_
  refine X_iushr hK kd21_10.2.2.1 (fun z9 ez9 lz9 uz9 => ?_)
  refine X_sipush hK kd21_10.2.2.2.1 (by decide) ?_
  refine X_iand hK kd21_10.2.2.2.2.1 (fun z10 ez10 lz10 uz10 => ?_)
  have bz10 := xandB ez10 ⟨lz10, uz10⟩ (by omega)
  refine X_iast hK hs_y0 (by decide) (by decide) sl_13500 (by omega) (by omega) (by omega) (by omega) kd21_10.2.2.2.2.2.1 (fun g11 hg11 => ?_)
  refine X_aloadn hK (i := 0) 1 kd21_10.2.2.2.2.2.2.1 rfl rfl ?_
  refine X_dup hK kd21_10.2.2.2.2.2.2.2.1 rfl ?_
  refine X_getK hK fl_X9_15_10 hs_a0 ((xs_a hg11 (xne hs_a0 hs_y0 (by decide))).trans (xs_s hg6)) kd21_10.2.2.2.2.2.2.2.2.1 ?_
  refine X_iconst hK kd21_10.2.2.2.2.2.2.2.2.2.1 ?_
  refine X_iadd hK kd21_10.2.2.2.2.2.2.2.2.2.2.1 ?_
  refine X_puti hK fl_X9_15_10 hs_a0 (by decide) sl_10_1 (by omega) (by omega) kd21_10.2.2.2.2.2.2.2.2.2.2.2 (fun g12 hg12 => ?_)
  refine X_iinc hK (i := 2) (z := (24 + (-8))) (n := (-8)) 0 [(2, .int (iI ((24 + (-8)) + (-8)))), (0, .ref a0), (1, .int (iI x1))] kd21_11.1 rfl (by decide) rfl ?_
  refine X_goto hK 3 kd21_11.2.1 (by decide) ?_
  refine X_iloadn hK (i := 2) 0 kd21_9.1 rfl rfl ?_
  refine X_if_lt hK 51 (by omega) kd21_9.2.1 (by decide) (fun c13 => False.elim (by omega)) (fun c13 => ?_)
  refine X_aloadn hK (i := 0) 1 kd21_9.2.2.1 rfl rfl ?_
  refine X_getK hK fl_X9_15_10 hs_a0 (xs_s hg12) kd21_9.2.2.2.1 ?_
  refine X_aloadn hK (i := 0) 1 kd21_9.2.2.2.2.1 rfl rfl ?_
  refine X_getK hK fl_X9_9_10 hs_a0 ((xs_k hg12 (by decide)).trans ((xs_a hg11 (xne hs_a0 hs_y0 (by decide))).trans ((xs_k hg6 (by decide)).trans ((xs_a hg5 (xne hs_a0 hs_y0 (by decide))).trans ey0)))) kd21_9.2.2.2.2.2.1 ?_
  refine X_alen hK (i := 0) (ty := .int) hs_y0 (by decide) (by decide) (fun _ => rfl) kd21_9.2.2.2.2.2.2.1 ?_
  refine X_icmp_ge hK 51 (by omega) (by omega) kd21_9.2.2.2.2.2.2.2.1 (by decide) (fun c14 => False.elim (by omega)) (fun c14 => ?_)
  refine X_aloadn hK (i := 0) 1 kd21_9.2.2.2.2.2.2.2.2.1 rfl rfl ?_
  refine X_getK hK fl_X9_9_10 hs_a0 ((xs_k hg12 (by decide)).trans ((xs_a hg11 (xne hs_a0 hs_y0 (by decide))).trans ((xs_k hg6 (by decide)).trans ((xs_a hg5 (xne hs_a0 hs_y0 (by decide))).trans ey0)))) kd21_9.2.2.2.2.2.2.2.2.2.1 ?_
  refine X_aloadn hK (i := 0) 1 kd21_9.2.2.2.2.2.2.2.2.2.2.1 rfl rfl ?_
  refine X_getK hK fl_X9_15_10 hs_a0 (xs_s hg12) kd21_9.2.2.2.2.2.2.2.2.2.2.2 ?_
  refine X_iloadn hK (i := 1) 2 kd21_10.1 rfl rfl ?_
  refine X_iloadn hK (i := 2) 0 kd21_10.2.1 rfl rfl ?_
  refine X_iushr hK kd21_10.2.2.1 (fun z15 ez15 lz15 uz15 => ?_)
  refine X_sipush hK kd21_10.2.2.2.1 (by decide) ?_
  refine X_iand hK kd21_10.2.2.2.2.1 (fun z16 ez16 lz16 uz16 => ?_)
  have bz16 := xandB ez16 ⟨lz16, uz16⟩ (by omega)
  refine X_iast hK hs_y0 (by decide) (by decide) sl_13500 (by omega) (by omega) (by omega) (by omega) kd21_10.2.2.2.2.2.1 (fun g17 hg17 => ?_)
  refine X_aloadn hK (i := 0) 1 kd21_10.2.2.2.2.2.2.1 rfl rfl ?_
  refine X_dup hK kd21_10.2.2.2.2.2.2.2.1 rfl ?_
  refine X_getK hK fl_X9_15_10 hs_a0 ((xs_a hg17 (xne hs_a0 hs_y0 (by decide))).trans (xs_s hg12)) kd21_10.2.2.2.2.2.2.2.2.1 ?_
  refine X_iconst hK kd21_10.2.2.2.2.2.2.2.2.2.1 ?_
  refine X_iadd hK kd21_10.2.2.2.2.2.2.2.2.2.2.1 ?_
  refine X_puti hK fl_X9_15_10 hs_a0 (by decide) sl_10_1 (by omega) (by omega) kd21_10.2.2.2.2.2.2.2.2.2.2.2 (fun g18 hg18 => ?_)
  refine X_iinc hK (i := 2) (z := ((24 + (-8)) + (-8))) (n := (-8)) 0 [(2, .int (iI (((24 + (-8)) + (-8)) + (-8)))), (0, .ref a0), (1, .int (iI x1))] kd21_11.1 rfl (by decide) rfl ?_
  refine X_goto hK 3 kd21_11.2.1 (by decide) ?_
  refine X_iloadn hK (i := 2) 0 kd21_9.1 rfl rfl ?_
  refine X_if_lt hK 51 (by omega) kd21_9.2.1 (by decide) (fun c19 => False.elim (by omega)) (fun c19 => ?_)
  refine X_aloadn hK (i := 0) 1 kd21_9.2.2.1 rfl rfl ?_
  refine X_getK hK fl_X9_15_10 hs_a0 (xs_s hg18) kd21_9.2.2.2.1 ?_
  refine X_aloadn hK (i := 0) 1 kd21_9.2.2.2.2.1 rfl rfl ?_
  refine X_getK hK fl_X9_9_10 hs_a0 ((xs_k hg18 (by decide)).trans ((xs_a hg17 (xne hs_a0 hs_y0 (by decide))).trans ((xs_k hg12 (by decide)).trans ((xs_a hg11 (xne hs_a0 hs_y0 (by decide))).trans ((xs_k hg6 (by decide)).trans ((xs_a hg5 (xne hs_a0 hs_y0 (by decide))).trans ey0)))))) kd21_9.2.2.2.2.2.1 ?_
  refine X_alen hK (i := 0) (ty := .int) hs_y0 (by decide) (by decide) (fun _ => rfl) kd21_9.2.2.2.2.2.2.1 ?_
  refine X_icmp_ge hK 51 (by omega) (by omega) kd21_9.2.2.2.2.2.2.2.1 (by decide) (fun c20 => False.elim (by omega)) (fun c20 => ?_)
  refine X_aloadn hK (i := 0) 1 kd21_9.2.2.2.2.2.2.2.2.1 rfl rfl ?_
  refine X_getK hK fl_X9_9_10 hs_a0 ((xs_k hg18 (by decide)).trans ((xs_a hg17 (xne hs_a0 hs_y0 (by decide))).trans ((xs_k hg12 (by decide)).trans ((xs_a hg11 (xne hs_a0 hs_y0 (by decide))).trans ((xs_k hg6 (by decide)).trans ((xs_a hg5 (xne hs_a0 hs_y0 (by decide))).trans ey0)))))) kd21_9.2.2.2.2.2.2.2.2.2.1 ?_
  refine X_aloadn hK (i := 0) 1 kd21_9.2.2.2.2.2.2.2.2.2.2.1 rfl rfl ?_
  refine X_getK hK fl_X9_15_10 hs_a0 (xs_s hg18) kd21_9.2.2.2.2.2.2.2.2.2.2.2 ?_
  refine X_iloadn hK (i := 1) 2 kd21_10.1 rfl rfl ?_
  refine X_iloadn hK (i := 2) 0 kd21_10.2.1 rfl rfl ?_
  refine X_iushr hK kd21_10.2.2.1 (fun z21 ez21 lz21 uz21 => ?_)
  refine X_sipush hK kd21_10.2.2.2.1 (by decide) ?_
  refine X_iand hK kd21_10.2.2.2.2.1 (fun z22 ez22 lz22 uz22 => ?_)
  have bz22 := xandB ez22 ⟨lz22, uz22⟩ (by omega)
  refine X_iast hK hs_y0 (by decide) (by decide) sl_13500 (by omega) (by omega) (by omega) (by omega) kd21_10.2.2.2.2.2.1 (fun g23 hg23 => ?_)
  refine X_aloadn hK (i := 0) 1 kd21_10.2.2.2.2.2.2.1 rfl rfl ?_
  refine X_dup hK kd21_10.2.2.2.2.2.2.2.1 rfl ?_
  refine X_getK hK fl_X9_15_10 hs_a0 ((xs_a hg23 (xne hs_a0 hs_y0 (by decide))).trans (xs_s hg18)) kd21_10.2.2.2.2.2.2.2.2.1 ?_
  refine X_iconst hK kd21_10.2.2.2.2.2.2.2.2.2.1 ?_
  refine X_iadd hK kd21_10.2.2.2.2.2.2.2.2.2.2.1 ?_
  refine X_puti hK fl_X9_15_10 hs_a0 (by decide) sl_10_1 (by omega) (by omega) kd21_10.2.2.2.2.2.2.2.2.2.2.2 (fun g24 hg24 => ?_)
  refine X_iinc hK (i := 2) (z := (((24 + (-8)) + (-8)) + (-8))) (n := (-8)) 0 [(2, .int (iI ((((24 + (-8)) + (-8)) + (-8)) + (-8)))), (0, .ref a0), (1, .int (iI x1))] kd21_11.1 rfl (by decide) rfl ?_
  refine X_goto hK 3 kd21_11.2.1 (by decide) ?_
  refine X_iloadn hK (i := 2) 0 kd21_9.1 rfl rfl ?_
  refine X_if_lt hK 51 (by omega) kd21_9.2.1 (by decide) (fun c25 => ?_) (fun c25 => False.elim (by omega))
  exact hret _ _ _ _ _ _ kd21_11.2.2 ⟨rfl, rfl, ((xs_s hg24).trans (by congr 2; omega)), ⟨(fun i9 hi9 h09 => (show xv g24 y0 i9 = xv g y0 i9 from by rw [(xv_a hg24 (xne hs_y0 hs_a0 (by decide))), (xv_k (i := i9) hg23 (by omega) (by omega) (by omega)), (xv_a hg18 (xne hs_y0 hs_a0 (by decide))), (xv_k (i := i9) hg17 (by omega) (by omega) (by omega)), (xv_a hg12 (xne hs_y0 hs_a0 (by decide))), (xv_k (i := i9) hg11 (by omega) (by omega) (by omega)), (xv_a hg6 (xne hs_y0 hs_a0 (by decide))), (xv_k (i := i9) hg5 (by omega) (by omega) (by omega))])), (Eq.trans (show xv g24 y0 n0 = z4 from by rw [(xv_a hg24 (xne hs_y0 hs_a0 (by decide))), (xv_k (i := n0) hg23 (by omega) (by omega) (by omega)), (xv_a hg18 (xne hs_y0 hs_a0 (by decide))), (xv_k (i := n0) hg17 (by omega) (by omega) (by omega)), (xv_a hg12 (xne hs_y0 hs_a0 (by decide))), (xv_k (i := n0) hg11 (by omega) (by omega) (by omega)), (xv_a hg6 (xne hs_y0 hs_a0 (by decide))), xv_s hg5 (by omega)]) (xby_of (k := 24) (by omega) ez3 ez4 (by omega))), (Eq.trans (show xv g24 y0 (n0 + 1) = z10 from by rw [(xv_a hg24 (xne hs_y0 hs_a0 (by decide))), (xv_k (i := (n0 + 1)) hg23 (by omega) (by omega) (by omega)), (xv_a hg18 (xne hs_y0 hs_a0 (by decide))), (xv_k (i := (n0 + 1)) hg17 (by omega) (by omega) (by omega)), (xv_a hg12 (xne hs_y0 hs_a0 (by decide))), xv_s hg11 (by omega)]) (xby_of (k := (24 + (-8))) (by omega) ez9 ez10 (by omega))), (Eq.trans (show xv g24 y0 ((n0 + 1) + 1) = z16 from by rw [(xv_a hg24 (xne hs_y0 hs_a0 (by decide))), (xv_k (i := ((n0 + 1) + 1)) hg23 (by omega) (by omega) (by omega)), (xv_a hg18 (xne hs_y0 hs_a0 (by decide))), xv_s hg17 (by omega)]) (xby_of (k := ((24 + (-8)) + (-8))) (by omega) ez15 ez16 (by omega))), (Eq.trans (show xv g24 y0 (((n0 + 1) + 1) + 1) = z22 from by rw [(xv_a hg24 (xne hs_y0 hs_a0 (by decide))), xv_s hg23 (by omega)]) (xby_of (k := (((24 + (-8)) + (-8)) + (-8))) (by omega) ez21 ez22 (by omega)))⟩⟩ (Nat.le_refl _) (Nat.le_refl _)

set_option maxHeartbeats 4000000 in
set_option maxRecDepth 100000 in
theorem c_X9_isWeather (l : Launch) (D : va_G) (kA : Nat → ClassId) (b0 : Nat) (t0 : Nat → Nat) (S : xT) (g : xG) (a0 : Nat) (w0 : Nat) (n0 : Int) (hs_a0 : S a0 = some (10, 0)) (ew0 : g a0 0 = .ref w0) (hs_w0 : S w0 = some (13500, 420)) (hn0 : 0 ≤ n0 ∧ n0 ≤ 420) (en0 : g a0 1 = .int (iI n0)) : xMt l yX9_isWeather cX9_isWeather 2 (some .boolean) 0 0 0 0 D kA b0 t0 [] [.ref a0] S g (fun (r : Option Value) (S1 : xT) (g1 : xG) => S = S1 ∧ g = g1 ∧ ∃ z : Int, r = some (.int (iI z)) ∧ 0 ≤ z ∧ z ≤ 1 ∧ ((z = 1 ↔ xWk (xv g w0) n0)) ∧ (z = 1 → xwk g w0 n0)) := by
  refine xEnterZ (by decide) (by simp [lg_sl, Value.category]) [(0, .ref a0)] rfl ?_
  intro K E hK hret _ _ _
  refine X_iconst hK kd21_3.1 ?_
  refine X_istoren hK (i := 1) [(1, .int (iI 0)), (0, .ref a0)] kd21_3.2.1 rfl (by decide) rfl ?_
  have P37 : ∀ (nP37 : Nat) (z31 : Int) (_ : 0 ≤ z31) (_ : z31 ≤ 420) (_ : xwk g w0 z31) (_ : xWk (xv g w0) z31) (_ : 436 - z31 < (nP37 : Int)), X K E 2 [(1, .int (iI z31)), (0, .ref a0)] [] S g 0 0 := by
    intro nP37
    induction nP37 with
    | zero => intro z31 lz31 uz31 v38 v39 mP37; exact False.elim (by omega)
    | succ nP37 ihP37 =>
      intro z31 lz31 uz31 v38 v39 mP37
      refine X_iloadn hK (i := 1) 0 kd21_3.2.2.1 rfl rfl ?_
      refine X_aloadn hK (i := 0) 1 kd21_3.2.2.2.1 rfl rfl ?_
      refine X_getK hK fl_X9_15_10 hs_a0 en0 kd21_3.2.2.2.2.1 ?_
      refine X_icmp_ge hK 40 (by omega) (by omega) kd21_3.2.2.2.2.2.1 (by decide) (fun c40 => ?_) (fun c40 => ?_)
      · refine X_iconst hK kd21_4.2.2.2.2.2.2.2.2.2.2.1 ?_
        exact hret _ _ _ _ _ _ _ kd21_4.2.2.2.2.2.2.2.2.2.2.2 (by omega) (by omega) ⟨rfl, rfl, 1, rfl, (by omega), (by omega), ⟨fun _ => xWk.to v39 (by omega), fun _ => rfl⟩, (fun _ => xwk_m v38 (by omega))⟩ (Nat.le_refl _) (Nat.le_refl _)
      · refine X_aloadn hK (i := 0) 1 kd21_3.2.2.2.2.2.2.1 rfl rfl ?_
        refine X_getK hK fl_X9_9_10 hs_a0 ew0 kd21_3.2.2.2.2.2.2.2.1 ?_
        refine X_iloadn hK (i := 1) 0 kd21_3.2.2.2.2.2.2.2.2.1 rfl rfl ?_
        refine X_iald hK hs_w0 (by decide) sl_13500 (by omega) (by omega) kd21_3.2.2.2.2.2.2.2.2.2.1 (fun z41 ez41 lz41 uz41 => ?_)
        have hvz41 := xv_e (j := z31) ez41 (by omega)
        refine X_iconst hK kd21_3.2.2.2.2.2.2.2.2.2.2.1 ?_
        refine X_icmp_lt hK 34 (by omega) (by omega) kd21_3.2.2.2.2.2.2.2.2.2.2.2 (by decide) (fun c42 => ?_) (fun c42 => ?_)
        · refine X_iinc hK (i := 1) (z := z31) (n := 1) 0 [(1, .int (iI (z31 + 1))), (0, .ref a0)] kd21_4.2.2.2.2.2.2.2.2.1 rfl (by decide) rfl ?_
          refine X_goto hK 2 kd21_4.2.2.2.2.2.2.2.2.2.1 (by decide) ?_
          exact ihP37  (z31 + 1) (by omega) (by omega) (xwk_s v38 ez41 (by omega) (by omega)) (xWk.s v39 (xv_e ez41 (by omega)) (by omega)) (by omega)
        · refine X_aloadn hK (i := 0) 1 kd21_4.1 rfl rfl ?_
          refine X_getK hK fl_X9_9_10 hs_a0 ew0 kd21_4.2.1 ?_
          refine X_iloadn hK (i := 1) 0 kd21_4.2.2.1 rfl rfl ?_
          refine X_ialdK hK hs_w0 (by decide) (by omega) (by omega) ez41 kd21_4.2.2.2.1 ?_
          have hvx43 := xv_e (j := z31) ez41 (by omega)
          refine X_sipush hK kd21_4.2.2.2.2.1 (by decide) ?_
          refine X_icmp_eq hK 34 (by omega) (by omega) kd21_4.2.2.2.2.2.1 (by decide) (fun c44 => ?_) (fun c44 => ?_)
          · refine X_iinc hK (i := 1) (z := z31) (n := 1) 0 [(1, .int (iI (z31 + 1))), (0, .ref a0)] kd21_4.2.2.2.2.2.2.2.2.1 rfl (by decide) rfl ?_
            refine X_goto hK 2 kd21_4.2.2.2.2.2.2.2.2.2.1 (by decide) ?_
            exact ihP37  (z31 + 1) (by omega) (by omega) (xwk_s v38 ez41 (by omega) (by omega)) (xWk.s v39 (xv_e ez41 (by omega)) (by omega)) (by omega)
          · refine X_iconst hK kd21_4.2.2.2.2.2.2.1 ?_
            exact hret _ _ _ _ _ _ _ kd21_4.2.2.2.2.2.2.2.1 (by omega) (by omega) ⟨rfl, rfl, 0, rfl, (by omega), (by omega), ⟨fun h9 => by omega, fun h9 => by have h8 := h9 z31 (by omega) (by omega); omega⟩, (fun h => by omega)⟩ (Nat.le_refl _) (Nat.le_refl _)
  exact P37 ((436 - 0 : Int).toNat + 1) 0 (by omega) (by omega) xwk_0 xWk.z (by omega)

set_option maxHeartbeats 4000000 in
set_option maxRecDepth 100000 in
theorem c_X9_noneAbove (l : Launch) (D : va_G) (kA : Nat → ClassId) (b0 : Nat) (t0 : Nat → Nat) (S : xT) (g : xG) (a0 : Nat) (x1 : Int) (hs_a0 : S a0 = some (10, 0)) (hx1 : (-2147483648) ≤ x1 ∧ x1 ≤ 2147483647) : xMt l yX9_noneAbove cX9_noneAbove 3 (some .boolean) 0 0 0 0 D kA b0 t0 [] [.ref a0, .int (iI x1)] S g (fun (r : Option Value) (S1 : xT) (g1 : xG) => S = S1 ∧ g = g1 ∧ ∃ z : Int, r = some (.int (iI z)) ∧ 0 ≤ z ∧ z ≤ 1) := by
  refine xEnterZ (by decide) (by simp [lg_sl, Value.category]) [(0, .ref a0), (1, .int (iI x1))] rfl ?_
  intro K E hK hret _ _ _
  refine X_iconst hK kd21_5.1 ?_
  refine X_istoren hK (i := 2) [(2, .int (iI 0)), (0, .ref a0), (1, .int (iI x1))] kd21_5.2.1 rfl (by decide) rfl ?_
  have P37 : ∀ (nP37 : Nat) (z31 : Int) (_ : 0 ≤ z31) (_ : z31 ≤ 420) (_ : 436 - z31 < (nP37 : Int)), X K E 2 [(2, .int (iI z31)), (0, .ref a0), (1, .int (iI x1))] [] S g 0 0 := by
    intro nP37
    induction nP37 with
    | zero => intro z31 lz31 uz31 mP37; exact False.elim (by omega)
    | succ nP37 ihP37 =>
      intro z31 lz31 uz31 mP37
      refine X_iloadn hK (i := 2) 0 kd21_5.2.2.1 rfl rfl ?_
      refine X_aloadn hK (i := 0) 1 kd21_5.2.2.2.1 rfl rfl ?_
      refine X_geti hK fl_X9_15_10 hs_a0 sl_10_1 kd21_5.2.2.2.2.1 (fun z38 ez38 lz38 uz38 => ?_)
      refine X_icmp_ge hK 28 (by omega) (by omega) kd21_5.2.2.2.2.2.1 (by decide) (fun c39 => ?_) (fun c39 => ?_)
      · refine X_iconst hK kd21_6.2.2.2.2.1 ?_
        exact hret _ _ _ _ _ _ _ kd21_6.2.2.2.2.2.1 (by omega) (by omega) ⟨rfl, rfl, 1, rfl, (by omega), (by omega)⟩ (Nat.le_refl _) (Nat.le_refl _)
      · refine X_aloadn hK (i := 0) 1 kd21_5.2.2.2.2.2.2.1 rfl rfl ?_
        refine X_getr hK 13500 420 fl_X9_9_10 hs_a0 sl_10_0 kd21_5.2.2.2.2.2.2.2.1 (fun b40 eb40 hs_b40 => ?_)
        refine X_iloadn hK (i := 2) 0 kd21_5.2.2.2.2.2.2.2.2.1 rfl rfl ?_
        refine X_iald hK hs_b40 (by decide) sl_13500 (by omega) (by omega) kd21_5.2.2.2.2.2.2.2.2.2.1 (fun z41 ez41 lz41 uz41 => ?_)
        refine X_iloadn hK (i := 1) 2 kd21_5.2.2.2.2.2.2.2.2.2.2.1 rfl rfl ?_
        refine X_icmp_le hK 22 (by omega) (by omega) kd21_5.2.2.2.2.2.2.2.2.2.2.2 (by decide) (fun c42 => ?_) (fun c42 => ?_)
        · refine X_iinc hK (i := 2) (z := z31) (n := 1) 0 [(2, .int (iI (z31 + 1))), (0, .ref a0), (1, .int (iI x1))] kd21_6.2.2.1 rfl (by decide) rfl ?_
          refine X_goto hK 2 kd21_6.2.2.2.1 (by decide) ?_
          exact ihP37  (z31 + 1) (by omega) (by omega) (by omega)
        · refine X_iconst hK kd21_6.1 ?_
          exact hret _ _ _ _ _ _ _ kd21_6.2.1 (by omega) (by omega) ⟨rfl, rfl, 0, rfl, (by omega), (by omega)⟩ (Nat.le_refl _) (Nat.le_refl _)
  exact P37 ((436 - 0 : Int).toNat + 1) 0 (by omega) (by omega) (by omega)

set_option maxHeartbeats 4000000 in
set_option maxRecDepth 100000 in
theorem c_X12_come (l : Launch) (D : va_G) (kA : Nat → ClassId) (b0 : Nat) (t0 : Nat → Nat) (S : xT) (g : xG) (a0 : Nat) (x1 : Int) (n0 : Int) (y0 : Nat) (hs_a0 : S a0 = some (13, 0)) (hx1 : (-2147483648) ≤ x1 ∧ x1 ≤ 2147483647) (hn0 : 0 ≤ n0 ∧ n0 ≤ 416) (en0 : g a0 2 = .int (iI n0)) (ey0 : g a0 1 = .ref y0) (hs_y0 : S y0 = some (14100, 420)) : xMt l yX12_come cX12_come 3 none 0 0 0 0 D kA b0 t0 [(14100, 0), (13, 2)] [.ref a0, .int (iI x1)] S g (fun (r : Option Value) (S1 : xT) (g1 : xG) => S = S1 ∧ r = none ∧ (g1 a0 2 = .int (iI (n0 + 4))) ∧ (xPut (xv g1 y0) (xv g y0) n0 x1)) := by
  refine xEnterV (by decide) (by simp [lg_sl, Value.category]) [(0, .ref a0), (1, .int (iI x1))] rfl ?_
  intro K E hK hret _ _ _
  refine X_bipush hK kd21_0.1 (by decide) ?_
  refine X_istoren hK (i := 2) [(2, .int (iI 24)), (0, .ref a0), (1, .int (iI x1))] kd21_0.2.1 rfl (by decide) rfl ?_
  refine X_iloadn hK (i := 2) 0 kd21_0.2.2.1 rfl rfl ?_
  refine X_if_lt hK 39 (by omega) kd21_0.2.2.2.1 (by decide) (fun c1 => False.elim (by omega)) (fun c1 => ?_)
  refine X_aloadn hK (i := 0) 1 kd21_0.2.2.2.2.1 rfl rfl ?_
  refine X_getK hK fl_X12_7_13 hs_a0 ey0 kd21_0.2.2.2.2.2.1 ?_
  refine X_aloadn hK (i := 0) 1 kd21_0.2.2.2.2.2.2.1 rfl rfl ?_
  refine X_getK hK fl_X12_201_13 hs_a0 en0 kd21_0.2.2.2.2.2.2.2.1 ?_
  refine X_iloadn hK (i := 1) 2 kd21_0.2.2.2.2.2.2.2.2.1 rfl rfl ?_
  refine X_iloadn hK (i := 2) 0 kd21_0.2.2.2.2.2.2.2.2.2.1 rfl rfl ?_
  refine X_iushr hK kd21_0.2.2.2.2.2.2.2.2.2.2.1 (fun z2 ez2 lz2 uz2 => ?_)
  refine X_sipush hK kd21_0.2.2.2.2.2.2.2.2.2.2.2 (by decide) ?_
  refine X_iand hK kd21_1.1 (fun z3 ez3 lz3 uz3 => ?_)
  have bz3 := xandB ez3 ⟨lz3, uz3⟩ (by omega)
  refine X_iast hK hs_y0 (by decide) (by decide) sl_14100 (by omega) (by omega) (by omega) (by omega) kd21_1.2.1 (fun g4 hg4 => ?_)
  refine X_aloadn hK (i := 0) 1 kd21_1.2.2.1 rfl rfl ?_
  refine X_dup hK kd21_1.2.2.2.1 rfl ?_
  refine X_getK hK fl_X12_201_13 hs_a0 ((xs_a hg4 (xne hs_a0 hs_y0 (by decide))).trans en0) kd21_1.2.2.2.2.1 ?_
  refine X_iconst hK kd21_1.2.2.2.2.2.1 ?_
  refine X_iadd hK kd21_1.2.2.2.2.2.2.1 ?_
  refine X_puti hK fl_X12_201_13 hs_a0 (by decide) sl_13_2 (by omega) (by omega) kd21_1.2.2.2.2.2.2.2.1 (fun g5 hg5 => ?_)
  refine X_iinc hK (i := 2) (z := 24) (n := (-8)) 0 [(2, .int (iI (24 + (-8)))), (0, .ref a0), (1, .int (iI x1))] kd21_1.2.2.2.2.2.2.2.2.1 rfl (by decide) rfl ?_
  refine X_goto hK 3 kd21_1.2.2.2.2.2.2.2.2.2.1 (by decide) ?_
  refine X_iloadn hK (i := 2) 0 kd21_0.2.2.1 rfl rfl ?_
  refine X_if_lt hK 39 (by omega) kd21_0.2.2.2.1 (by decide) (fun c6 => False.elim (by omega)) (fun c6 => ?_)
  refine X_aloadn hK (i := 0) 1 kd21_0.2.2.2.2.1 rfl rfl ?_
  refine X_getK hK fl_X12_7_13 hs_a0 ((xs_k hg5 (by decide)).trans ((xs_a hg4 (xne hs_a0 hs_y0 (by decide))).trans ey0)) kd21_0.2.2.2.2.2.1 ?_
  refine X_aloadn hK (i := 0) 1 kd21_0.2.2.2.2.2.2.1 rfl rfl ?_
  refine X_getK hK fl_X12_201_13 hs_a0 (xs_s hg5) kd21_0.2.2.2.2.2.2.2.1 ?_
  refine X_iloadn hK (i := 1) 2 kd21_0.2.2.2.2.2.2.2.2.1 rfl rfl ?_
  refine X_iloadn hK (i := 2) 0 kd21_0.2.2.2.2.2.2.2.2.2.1 rfl rfl ?_
  refine X_iushr hK kd21_0.2.2.2.2.2.2.2.2.2.2.1 (fun z7 ez7 lz7 uz7 => ?_)
  refine X_sipush hK kd21_0.2.2.2.2.2.2.2.2.2.2.2 (by decide) ?_
  refine X_iand hK kd21_1.1 (fun z8 ez8 lz8 uz8 => ?_)
  have bz8 := xandB ez8 ⟨lz8, uz8⟩ (by omega)
  refine X_iast hK hs_y0 (by decide) (by decide) sl_14100 (by omega) (by omega) (by omega) (by omega) kd21_1.2.1 (fun g9 hg9 => ?_)
  refine X_aloadn hK (i := 0) 1 kd21_1.2.2.1 rfl rfl ?_
  refine X_dup hK kd21_1.2.2.2.1 rfl ?_
  refine X_getK hK fl_X12_201_13 hs_a0 ((xs_a hg9 (xne hs_a0 hs_y0 (by decide))).trans (xs_s hg5)) kd21_1.2.2.2.2.1 ?_
  refine X_iconst hK kd21_1.2.2.2.2.2.1 ?_
  refine X_iadd hK kd21_1.2.2.2.2.2.2.1 ?_
  refine X_puti hK fl_X12_201_13 hs_a0 (by decide) sl_13_2 (by omega) (by omega) kd21_1.2.2.2.2.2.2.2.1 (fun g10 hg10 => ?_)
  refine X_iinc hK (i := 2) (z := (24 + (-8))) (n := (-8)) 0 [(2, .int (iI ((24 + (-8)) + (-8)))), (0, .ref a0), (1, .int (iI x1))] kd21_1.2.2.2.2.2.2.2.2.1 rfl (by decide) rfl ?_
  refine X_goto hK 3 kd21_1.2.2.2.2.2.2.2.2.2.1 (by decide) ?_
  refine X_iloadn hK (i := 2) 0 kd21_0.2.2.1 rfl rfl ?_
  refine X_if_lt hK 39 (by omega) kd21_0.2.2.2.1 (by decide) (fun c11 => False.elim (by omega)) (fun c11 => ?_)
  refine X_aloadn hK (i := 0) 1 kd21_0.2.2.2.2.1 rfl rfl ?_
  refine X_getK hK fl_X12_7_13 hs_a0 ((xs_k hg10 (by decide)).trans ((xs_a hg9 (xne hs_a0 hs_y0 (by decide))).trans ((xs_k hg5 (by decide)).trans ((xs_a hg4 (xne hs_a0 hs_y0 (by decide))).trans ey0)))) kd21_0.2.2.2.2.2.1 ?_
  refine X_aloadn hK (i := 0) 1 kd21_0.2.2.2.2.2.2.1 rfl rfl ?_
  refine X_getK hK fl_X12_201_13 hs_a0 (xs_s hg10) kd21_0.2.2.2.2.2.2.2.1 ?_
  refine X_iloadn hK (i := 1) 2 kd21_0.2.2.2.2.2.2.2.2.1 rfl rfl ?_
  refine X_iloadn hK (i := 2) 0 kd21_0.2.2.2.2.2.2.2.2.2.1 rfl rfl ?_
  refine X_iushr hK kd21_0.2.2.2.2.2.2.2.2.2.2.1 (fun z12 ez12 lz12 uz12 => ?_)
  refine X_sipush hK kd21_0.2.2.2.2.2.2.2.2.2.2.2 (by decide) ?_
  refine X_iand hK kd21_1.1 (fun z13 ez13 lz13 uz13 => ?_)
  have bz13 := xandB ez13 ⟨lz13, uz13⟩ (by omega)
  refine X_iast hK hs_y0 (by decide) (by decide) sl_14100 (by omega) (by omega) (by omega) (by omega) kd21_1.2.1 (fun g14 hg14 => ?_)
  refine X_aloadn hK (i := 0) 1 kd21_1.2.2.1 rfl rfl ?_
  refine X_dup hK kd21_1.2.2.2.1 rfl ?_
  refine X_getK hK fl_X12_201_13 hs_a0 ((xs_a hg14 (xne hs_a0 hs_y0 (by decide))).trans (xs_s hg10)) kd21_1.2.2.2.2.1 ?_
  refine X_iconst hK kd21_1.2.2.2.2.2.1 ?_
  refine X_iadd hK kd21_1.2.2.2.2.2.2.1 ?_
  refine X_puti hK fl_X12_201_13 hs_a0 (by decide) sl_13_2 (by omega) (by omega) kd21_1.2.2.2.2.2.2.2.1 (fun g15 hg15 => ?_)
  refine X_iinc hK (i := 2) (z := ((24 + (-8)) + (-8))) (n := (-8)) 0 [(2, .int (iI (((24 + (-8)) + (-8)) + (-8)))), (0, .ref a0), (1, .int (iI x1))] kd21_1.2.2.2.2.2.2.2.2.1 rfl (by decide) rfl ?_
  refine X_goto hK 3 kd21_1.2.2.2.2.2.2.2.2.2.1 (by decide) ?_
  refine X_iloadn hK (i := 2) 0 kd21_0.2.2.1 rfl rfl ?_
  refine X_if_lt hK 39 (by omega) kd21_0.2.2.2.1 (by decide) (fun c16 => False.elim (by omega)) (fun c16 => ?_)
  refine X_aloadn hK (i := 0) 1 kd21_0.2.2.2.2.1 rfl rfl ?_
  refine X_getK hK fl_X12_7_13 hs_a0 ((xs_k hg15 (by decide)).trans ((xs_a hg14 (xne hs_a0 hs_y0 (by decide))).trans ((xs_k hg10 (by decide)).trans ((xs_a hg9 (xne hs_a0 hs_y0 (by decide))).trans ((xs_k hg5 (by decide)).trans ((xs_a hg4 (xne hs_a0 hs_y0 (by decide))).trans ey0)))))) kd21_0.2.2.2.2.2.1 ?_
  refine X_aloadn hK (i := 0) 1 kd21_0.2.2.2.2.2.2.1 rfl rfl ?_
  refine X_getK hK fl_X12_201_13 hs_a0 (xs_s hg15) kd21_0.2.2.2.2.2.2.2.1 ?_
  refine X_iloadn hK (i := 1) 2 kd21_0.2.2.2.2.2.2.2.2.1 rfl rfl ?_
  refine X_iloadn hK (i := 2) 0 kd21_0.2.2.2.2.2.2.2.2.2.1 rfl rfl ?_
  refine X_iushr hK kd21_0.2.2.2.2.2.2.2.2.2.2.1 (fun z17 ez17 lz17 uz17 => ?_)
  refine X_sipush hK kd21_0.2.2.2.2.2.2.2.2.2.2.2 (by decide) ?_
  refine X_iand hK kd21_1.1 (fun z18 ez18 lz18 uz18 => ?_)
  have bz18 := xandB ez18 ⟨lz18, uz18⟩ (by omega)
  refine X_iast hK hs_y0 (by decide) (by decide) sl_14100 (by omega) (by omega) (by omega) (by omega) kd21_1.2.1 (fun g19 hg19 => ?_)
  refine X_aloadn hK (i := 0) 1 kd21_1.2.2.1 rfl rfl ?_
  refine X_dup hK kd21_1.2.2.2.1 rfl ?_
  refine X_getK hK fl_X12_201_13 hs_a0 ((xs_a hg19 (xne hs_a0 hs_y0 (by decide))).trans (xs_s hg15)) kd21_1.2.2.2.2.1 ?_
  refine X_iconst hK kd21_1.2.2.2.2.2.1 ?_
  refine X_iadd hK kd21_1.2.2.2.2.2.2.1 ?_
  refine X_puti hK fl_X12_201_13 hs_a0 (by decide) sl_13_2 (by omega) (by omega) kd21_1.2.2.2.2.2.2.2.1 (fun g20 hg20 => ?_)
  refine X_iinc hK (i := 2) (z := (((24 + (-8)) + (-8)) + (-8))) (n := (-8)) 0 [(2, .int (iI ((((24 + (-8)) + (-8)) + (-8)) + (-8)))), (0, .ref a0), (1, .int (iI x1))] kd21_1.2.2.2.2.2.2.2.2.1 rfl (by decide) rfl ?_
  refine X_goto hK 3 kd21_1.2.2.2.2.2.2.2.2.2.1 (by decide) ?_
  refine X_iloadn hK (i := 2) 0 kd21_0.2.2.1 rfl rfl ?_
  refine X_if_lt hK 39 (by omega) kd21_0.2.2.2.1 (by decide) (fun c21 => ?_) (fun c21 => False.elim (by omega))
  exact hret _ _ _ _ _ _ kd21_1.2.2.2.2.2.2.2.2.2.2.1 ⟨rfl, rfl, ((xs_s hg20).trans (by congr 2; omega)), ⟨(fun i9 hi9 h09 => (show xv g20 y0 i9 = xv g y0 i9 from by rw [(xv_a hg20 (xne hs_y0 hs_a0 (by decide))), (xv_k (i := i9) hg19 (by omega) (by omega) (by omega)), (xv_a hg15 (xne hs_y0 hs_a0 (by decide))), (xv_k (i := i9) hg14 (by omega) (by omega) (by omega)), (xv_a hg10 (xne hs_y0 hs_a0 (by decide))), (xv_k (i := i9) hg9 (by omega) (by omega) (by omega)), (xv_a hg5 (xne hs_y0 hs_a0 (by decide))), (xv_k (i := i9) hg4 (by omega) (by omega) (by omega))])), (Eq.trans (show xv g20 y0 n0 = z3 from by rw [(xv_a hg20 (xne hs_y0 hs_a0 (by decide))), (xv_k (i := n0) hg19 (by omega) (by omega) (by omega)), (xv_a hg15 (xne hs_y0 hs_a0 (by decide))), (xv_k (i := n0) hg14 (by omega) (by omega) (by omega)), (xv_a hg10 (xne hs_y0 hs_a0 (by decide))), (xv_k (i := n0) hg9 (by omega) (by omega) (by omega)), (xv_a hg5 (xne hs_y0 hs_a0 (by decide))), xv_s hg4 (by omega)]) (xby_of (k := 24) (by omega) ez2 ez3 (by omega))), (Eq.trans (show xv g20 y0 (n0 + 1) = z8 from by rw [(xv_a hg20 (xne hs_y0 hs_a0 (by decide))), (xv_k (i := (n0 + 1)) hg19 (by omega) (by omega) (by omega)), (xv_a hg15 (xne hs_y0 hs_a0 (by decide))), (xv_k (i := (n0 + 1)) hg14 (by omega) (by omega) (by omega)), (xv_a hg10 (xne hs_y0 hs_a0 (by decide))), xv_s hg9 (by omega)]) (xby_of (k := (24 + (-8))) (by omega) ez7 ez8 (by omega))), (Eq.trans (show xv g20 y0 ((n0 + 1) + 1) = z13 from by rw [(xv_a hg20 (xne hs_y0 hs_a0 (by decide))), (xv_k (i := ((n0 + 1) + 1)) hg19 (by omega) (by omega) (by omega)), (xv_a hg15 (xne hs_y0 hs_a0 (by decide))), xv_s hg14 (by omega)]) (xby_of (k := ((24 + (-8)) + (-8))) (by omega) ez12 ez13 (by omega))), (Eq.trans (show xv g20 y0 (((n0 + 1) + 1) + 1) = z18 from by rw [(xv_a hg20 (xne hs_y0 hs_a0 (by decide))), xv_s hg19 (by omega)]) (xby_of (k := (((24 + (-8)) + (-8)) + (-8))) (by omega) ez17 ez18 (by omega)))⟩⟩ (Nat.le_refl _) (Nat.le_refl _)

set_option maxHeartbeats 4000000 in
set_option maxRecDepth 100000 in
theorem c_X12_take (l : Launch) (D : va_G) (kA : Nat → ClassId) (b0 : Nat) (t0 : Nat → Nat) (S : xT) (g : xG) (a0 : Nat) (n0 : Int) (hs_a0 : S a0 = some (13, 0)) (hn0 : 0 ≤ n0 ∧ n0 ≤ 420) (en0 : g a0 2 = .int (iI n0)) : xMt l yX12_take cX12_take 2 (some .int) 0 0 0 0 D kA b0 t0 [(13, 2)] [.ref a0] S g (fun (r : Option Value) (S1 : xT) (g1 : xG) => S = S1 ∧ ∃ z : Int, r = some (.int (iI z)) ∧ 0 ≤ z ∧ z ≤ 420 ∧ (z = n0) ∧ (g1 a0 2 = .int (iI (0)))) := by
  refine xEnterI (by decide) (by simp [lg_sl, Value.category]) [(0, .ref a0)] rfl ?_
  intro K E hK hret _ _ _
  refine X_aloadn hK (i := 0) 0 kd21_2.2.2.2.2.1 rfl rfl ?_
  refine X_getK hK fl_X12_201_13 hs_a0 en0 kd21_2.2.2.2.2.2.1 ?_
  refine X_istoren hK (i := 1) [(1, .int (iI n0)), (0, .ref a0)] kd21_2.2.2.2.2.2.2.1 rfl (by decide) rfl ?_
  refine X_aloadn hK (i := 0) 1 kd21_2.2.2.2.2.2.2.2.1 rfl rfl ?_
  refine X_iconst hK kd21_2.2.2.2.2.2.2.2.2.1 ?_
  refine X_puti hK fl_X12_201_13 hs_a0 (by decide) sl_13_2 (by omega) (by omega) kd21_2.2.2.2.2.2.2.2.2.2.1 (fun g1 hg1 => ?_)
  refine X_iloadn hK (i := 1) 0 kd21_2.2.2.2.2.2.2.2.2.2.2.1 rfl rfl ?_
  exact hret _ _ _ _ _ _ _ kd21_2.2.2.2.2.2.2.2.2.2.2.2 ⟨rfl, n0, rfl, (by omega), (by omega), (by omega), (xs_s hg1)⟩ (Nat.le_refl _) (Nat.le_refl _)

set_option maxHeartbeats 4000000 in
set_option maxRecDepth 100000 in
theorem c_X12_refuse (l : Launch) (D : va_G) (kA : Nat → ClassId) (b0 : Nat) (t0 : Nat → Nat) (S : xT) (g : xG) (a0 : Nat) (hs_a0 : S a0 = some (13, 0)) : xMt l yX12_refuse cX12_refuse 1 (some .int) 0 0 0 0 D kA b0 t0 [(13, 0)] [.ref a0] S g (fun (r : Option Value) (S1 : xT) (g1 : xG) => S = S1 ∧ ∃ z : Int, r = some (.int (iI z)) ∧ 0 ≤ z ∧ z ≤ 0) := by
  refine xEnterI (by decide) (by simp [lg_sl, Value.category]) [(0, .ref a0)] rfl ?_
  intro K E hK hret _ _ _
  refine X_aloadn hK (i := 0) 0 kd21_1.2.2.2.2.2.2.2.2.2.2.2 rfl rfl ?_
  refine X_iconst hK kd21_2.1 ?_
  refine X_puti hK fl_X12_198_13 hs_a0 (by decide) sl_13_0 (by omega) (by omega) kd21_2.2.1 (fun g1 hg1 => ?_)
  refine X_iconst hK kd21_2.2.2.1 ?_
  exact hret _ _ _ _ _ _ _ kd21_2.2.2.2.1 ⟨rfl, 0, rfl, (by omega), (by omega)⟩ (Nat.le_refl _) (Nat.le_refl _)
