theorem m_6_9 : Cond.fieldLink RX7 9 "PaperBoys$Reader" "token" "[I" ∈ wsL_law := ch_6 _ (List.mem_of_getElem? (i := 9) rfl)
theorem m_6_10 : Cond.fieldLink RX7 15 "PaperBoys$Reader" "place" "[I" ∈ wsL_law := ch_6 _ (List.mem_of_getElem? (i := 10) rfl)
theorem m_6_11 : Cond.fieldLink RX7 18 "PaperBoys$Reader" "at" "I" ∈ wsL_law := ch_6 _ (List.mem_of_getElem? (i := 11) rfl)
theorem m_6_14 : Cond.fieldLink RX7 29 "PaperBoys$Reader" "fault" "I" ∈ wsL_law := ch_6 _ (List.mem_of_getElem? (i := 14) rfl)
theorem m_6_15 : Cond.fieldLink RX7 32 "PaperBoys$Reader" "faultPlace" "I" ∈ wsL_law := ch_6 _ (List.mem_of_getElem? (i := 15) rfl)
theorem m_22_19 : Cond.fieldLink RX7 55 "PaperBoys$Tape" "size" "I" ∈ wsL_law := ch_22 _ (List.mem_of_getElem? (i := 19) rfl)
theorem m_23_1 : Cond.fieldLink RX7 70 "PaperBoys$Tape" "bytes" "[I" ∈ wsL_law := ch_23 _ (List.mem_of_getElem? (i := 1) rfl)
theorem m_23_2 : Cond.methodLink RX7 73 yX7_isOfName ∈ wsL_law := ch_23 _ (List.mem_of_getElem? (i := 2) rfl)
theorem m_23_3 : Cond.static yX7_isOfName ∈ wsL_law := ch_23 _ (List.mem_of_getElem? (i := 3) rfl)
theorem m_23_4 : Cond.code yX7_isOfName cX7_isOfName 1 (some .boolean) ∈ wsL_law := ch_23 _ (List.mem_of_getElem? (i := 4) rfl)
theorem m_25_21 : Cond.methodLink RX7 47 yX7_now ∈ wsL_law := ch_25 _ (List.mem_of_getElem? (i := 21) rfl)
theorem m_25_22 : Cond.instanceMethod yX7_now ∈ wsL_law := ch_25 _ (List.mem_of_getElem? (i := 22) rfl)
theorem m_25_23 : Cond.selects RX7 yX7_now yX7_now ∈ wsL_law := ch_25 _ (List.mem_of_getElem? (i := 23) rfl)
theorem m_26_0 : Cond.code yX7_now cX7_now 1 (some .int) ∈ wsL_law := ch_26 _ (List.mem_of_getElem? (i := 0) rfl)
theorem m_26_5 : Cond.methodLink RX7 60 yX7_tell ∈ wsL_law := ch_26 _ (List.mem_of_getElem? (i := 5) rfl)
theorem m_26_6 : Cond.instanceMethod yX7_tell ∈ wsL_law := ch_26 _ (List.mem_of_getElem? (i := 6) rfl)
theorem m_26_7 : Cond.selects RX7 yX7_tell yX7_tell ∈ wsL_law := ch_26 _ (List.mem_of_getElem? (i := 7) rfl)
theorem m_26_8 : Cond.code yX7_tell cX7_tell 2 none ∈ wsL_law := ch_26 _ (List.mem_of_getElem? (i := 8) rfl)
theorem kd27_0 : (decode cX7_expect 0 = .ok (.aload_n 0, 1)) ∧ (decode cX7_expect 1 = .ok (.invokevirtual 47, 3)) ∧ (decode cX7_expect 4 = .ok (.iload_n 1, 1)) ∧ (decode cX7_expect 5 = .ok (.if_icmp .ne 16, 3)) ∧ (decode cX7_expect 8 = .ok (.aload_n 0, 1)) ∧ (decode cX7_expect 9 = .ok (.dup, 1)) ∧ (decode cX7_expect 10 = .ok (.getfield 18, 3)) ∧ (decode cX7_expect 13 = .ok (.iconst 1, 1)) ∧ (decode cX7_expect 14 = .ok (.iadd, 1)) ∧ (decode cX7_expect 15 = .ok (.putfield 18, 3)) ∧ (decode cX7_expect 18 = .ok (.goto 8, 3)) ∧ (decode cX7_expect 21 = .ok (.aload_n 0, 1)) := by decide +kernel
theorem kd27_1 : (decode cX7_expect 22 = .ok (.iconst 1, 1)) ∧ (decode cX7_expect 23 = .ok (.invokevirtual 60, 3)) ∧ (decode cX7_expect 26 = .ok (.return_, 1)) ∧ (decode cX7_nameEnd 0 = .ok (.iload_n 1, 1)) ∧ (decode cX7_nameEnd 1 = .ok (.istore_n 2, 1)) ∧ (decode cX7_nameEnd 2 = .ok (.iload_n 2, 1)) ∧ (decode cX7_nameEnd 3 = .ok (.aload_n 0, 1)) ∧ (decode cX7_nameEnd 4 = .ok (.getfield 55, 3)) ∧ (decode cX7_nameEnd 7 = .ok (.if_icmp .ge 21, 3)) ∧ (decode cX7_nameEnd 10 = .ok (.aload_n 0, 1)) ∧ (decode cX7_nameEnd 11 = .ok (.getfield 70, 3)) ∧ (decode cX7_nameEnd 14 = .ok (.iload_n 2, 1)) := by decide +kernel
theorem kd27_2 : (decode cX7_nameEnd 15 = .ok (.iaload, 1)) ∧ (decode cX7_nameEnd 16 = .ok (.invokestatic 73, 3)) ∧ (decode cX7_nameEnd 19 = .ok (.ifCond .eq 9, 3)) ∧ (decode cX7_nameEnd 22 = .ok (.iinc 2 1, 3)) ∧ (decode cX7_nameEnd 25 = .ok (.goto (-23), 3)) ∧ (decode cX7_nameEnd 28 = .ok (.iload_n 2, 1)) ∧ (decode cX7_nameEnd 29 = .ok (.ireturn, 1)) ∧ (decode cX7_now 0 = .ok (.aload_n 0, 1)) ∧ (decode cX7_now 1 = .ok (.getfield 18, 3)) ∧ (decode cX7_now 4 = .ok (.aload_n 0, 1)) ∧ (decode cX7_now 5 = .ok (.getfield 9, 3)) ∧ (decode cX7_now 8 = .ok (.arraylength, 1)) := by decide +kernel
theorem kd27_3 : (decode cX7_now 9 = .ok (.if_icmp .ge 15, 3)) ∧ (decode cX7_now 12 = .ok (.aload_n 0, 1)) ∧ (decode cX7_now 13 = .ok (.getfield 9, 3)) ∧ (decode cX7_now 16 = .ok (.aload_n 0, 1)) ∧ (decode cX7_now 17 = .ok (.getfield 18, 3)) ∧ (decode cX7_now 20 = .ok (.iaload, 1)) ∧ (decode cX7_now 21 = .ok (.goto 5, 3)) ∧ (decode cX7_now 24 = .ok (.bipush 23, 2)) ∧ (decode cX7_now 26 = .ok (.ireturn, 1)) ∧ (decode cX7_tell 0 = .ok (.aload_n 0, 1)) ∧ (decode cX7_tell 1 = .ok (.getfield 29, 3)) ∧ (decode cX7_tell 4 = .ok (.ifCond .ne 39, 3)) := by decide +kernel
theorem kd27_4 : (decode cX7_tell 7 = .ok (.aload_n 0, 1)) ∧ (decode cX7_tell 8 = .ok (.iload_n 1, 1)) ∧ (decode cX7_tell 9 = .ok (.putfield 29, 3)) ∧ (decode cX7_tell 12 = .ok (.aload_n 0, 1)) ∧ (decode cX7_tell 13 = .ok (.aload_n 0, 1)) ∧ (decode cX7_tell 14 = .ok (.getfield 18, 3)) ∧ (decode cX7_tell 17 = .ok (.aload_n 0, 1)) ∧ (decode cX7_tell 18 = .ok (.getfield 15, 3)) ∧ (decode cX7_tell 21 = .ok (.arraylength, 1)) ∧ (decode cX7_tell 22 = .ok (.if_icmp .ge 15, 3)) ∧ (decode cX7_tell 25 = .ok (.aload_n 0, 1)) ∧ (decode cX7_tell 26 = .ok (.getfield 15, 3)) := by decide +kernel
theorem kd27_5 : (decode cX7_tell 29 = .ok (.aload_n 0, 1)) ∧ (decode cX7_tell 30 = .ok (.getfield 18, 3)) ∧ (decode cX7_tell 33 = .ok (.iaload, 1)) ∧ (decode cX7_tell 34 = .ok (.goto 6, 3)) ∧ (decode cX7_tell 37 = .ok (.sipush 300, 3)) ∧ (decode cX7_tell 40 = .ok (.putfield 32, 3)) ∧ (decode cX7_tell 43 = .ok (.return_, 1)) := by decide +kernel
theorem fl_X7_15_8 : xF RX7 15 8 1 (.array .int) true := ⟨by decide, RX7, TX7, 7, tyX7, "PaperBoys$Reader", rfl, inlX7, tyX7_ok, nmX7, by decide, rfl, rfl, m_6_10, Or.inl rfl⟩
theorem fl_X7_18_8 : xF RX7 18 8 2 .int false := ⟨by decide, RX7, TX7, 7, tyX7, "PaperBoys$Reader", rfl, inlX7, tyX7_ok, nmX7, by decide, rfl, rfl, m_6_11, Or.inl rfl⟩
theorem fl_X7_29_8 : xF RX7 29 8 5 .int false := ⟨by decide, RX7, TX7, 7, tyX7, "PaperBoys$Reader", rfl, inlX7, tyX7_ok, nmX7, by decide, rfl, rfl, m_6_14, Or.inl rfl⟩
theorem fl_X7_32_8 : xF RX7 32 8 6 .int false := ⟨by decide, RX7, TX7, 7, tyX7, "PaperBoys$Reader", rfl, inlX7, tyX7_ok, nmX7, by decide, rfl, rfl, m_6_15, Or.inl rfl⟩
theorem fl_X7_55_10 : xF RX7 55 10 1 .int false := ⟨by decide, RX9, TX9, 2, tyX9, "PaperBoys$Tape", rfl, inlX9, tyX9_ok, nmX9, by decide, rfl, rfl, m_22_19, Or.inl rfl⟩
theorem fl_X7_70_10 : xF RX7 70 10 0 (.array .int) true := ⟨by decide, RX9, TX9, 2, tyX9, "PaperBoys$Tape", rfl, inlX9, tyX9_ok, nmX9, by decide, rfl, rfl, m_23_1, Or.inl rfl⟩
theorem fl_X7_9_8 : xF RX7 9 8 0 (.array .int) true := ⟨by decide, RX7, TX7, 7, tyX7, "PaperBoys$Reader", rfl, inlX7, tyX7_ok, nmX7, by decide, rfl, rfl, m_6_9, Or.inl rfl⟩
theorem lk_X7_47 : xLV RX7 47 yX7_now cX7_now 1 (some .int) 0 := ⟨m_25_21, m_25_22, m_25_23, m_2_13, m_26_0, by decide +kernel⟩
theorem lk_X7_60 : xLV RX7 60 yX7_tell cX7_tell 2 none 1 := ⟨m_26_5, m_26_6, m_26_7, m_2_13, m_26_8, by decide +kernel⟩
theorem lk_X7_73 : xLS RX7 73 yX7_isOfName cX7_isOfName 1 (some .boolean) 1 := ⟨m_23_2, m_23_3, m_2_13, m_23_4, by decide +kernel⟩
set_option maxHeartbeats 4000000 in
set_option maxRecDepth 100000 in
theorem c_X7_nameEnd (l : Launch) (D : va_G) (kA : Nat → ClassId) (b0 : Nat) (t0 : Nat → Nat) (S : xT) (g : xG) (a0 : Nat) (x1 : Int) (hs_a0 : S a0 = some (10, 0)) (hx1 : 0 ≤ x1 ∧ x1 ≤ 420) : xMt l yX7_nameEnd cX7_nameEnd 3 (some .int) 2 0 0 40 D kA b0 t0 [] [.ref a0, .int (iI x1)] S g (fun (r : Option Value) (S1 : xT) (g1 : xG) => S = S1 ∧ g = g1 ∧ ∃ z : Int, r = some (.int (iI z)) ∧ 0 ≤ z ∧ z ≤ 420 ∧ (x1 ≤ z)) := by
  refine xEnterI (by decide) (by simp [lg_sl, Value.category]) [(0, .ref a0), (1, .int (iI x1))] rfl ?_
  intro K E hK hret _ _ _
  refine X_iloadn hK (i := 1) 1 kd27_1.2.2.2.1 rfl rfl ?_
  refine X_istoren hK (i := 2) [(2, .int (iI x1)), (0, .ref a0), (1, .int (iI x1))] kd27_1.2.2.2.2.1 rfl (by decide) rfl ?_
  have P45 : ∀ (nP45 : Nat) (z34 : Int) (_ : 0 ≤ z34) (_ : z34 ≤ 420) (_ : x1 ≤ z34) (_ : 436 - z34 < (nP45 : Int)), X K E 2 [(2, .int (iI z34)), (0, .ref a0), (1, .int (iI x1))] [] S g 0 0 := by
    intro nP45
    induction nP45 with
    | zero => intro z34 lz34 uz34 v46 mP45; exact False.elim (by omega)
    | succ nP45 ihP45 =>
      intro z34 lz34 uz34 v46 mP45
      refine X_iloadn hK (i := 2) 0 kd27_1.2.2.2.2.2.1 rfl rfl ?_
      refine X_aloadn hK (i := 0) 1 kd27_1.2.2.2.2.2.2.1 rfl rfl ?_
      refine X_geti hK fl_X7_55_10 hs_a0 sl_10_1 kd27_1.2.2.2.2.2.2.2.1 (fun z47 ez47 lz47 uz47 => ?_)
      refine X_icmp_ge hK 28 (by omega) (by omega) kd27_1.2.2.2.2.2.2.2.2.1 (by decide) (fun c48 => ?_) (fun c48 => ?_)
      · refine X_iloadn hK (i := 2) 0 kd27_2.2.2.2.2.2.1 rfl rfl ?_
        exact hret _ _ _ _ _ _ _ kd27_2.2.2.2.2.2.2.1 ⟨rfl, rfl, z34, rfl, (by omega), (by omega), (by omega)⟩ (Nat.le_refl _) (Nat.le_refl _)
      · refine X_aloadn hK (i := 0) 1 kd27_1.2.2.2.2.2.2.2.2.2.1 rfl rfl ?_
        refine X_getr hK 13500 420 fl_X7_70_10 hs_a0 sl_10_0 kd27_1.2.2.2.2.2.2.2.2.2.2.1 (fun b49 eb49 hs_b49 => ?_)
        refine X_iloadn hK (i := 2) 0 kd27_1.2.2.2.2.2.2.2.2.2.2.2 rfl rfl ?_
        refine X_iald hK hs_b49 (by decide) sl_13500 (by omega) (by omega) kd27_2.1 (fun z50 ez50 lz50 uz50 => ?_)
        refine X_callS hK [.int (iI z50)] [] lk_X7_73 (c_X7_isOfName _ _ _ _ _ S g z50 (by omega)) kd27_2.2.1 rfl rfl (by simp [Value.category]) (by decide) (by decide) (by decide) (by decide) (fun r51 S53 g52 pr51 qr51 hg52 => ?_)
        obtain ⟨rfl, rfl, z54, rfl, lz54, uz54, k55⟩ := pr51
        refine X_st [.int (iI z54)] rfl ?_
        refine X_if_eq hK 28 (by omega) kd27_2.2.2.1 (by decide) (fun c56 => ?_) (fun c56 => ?_)
        · refine X_iloadn hK (i := 2) 0 kd27_2.2.2.2.2.2.1 rfl rfl ?_
          exact hret _ _ _ _ _ _ _ kd27_2.2.2.2.2.2.2.1 ⟨rfl, rfl, z34, rfl, (by omega), (by omega), (by omega)⟩ (Nat.le_refl _) (Nat.le_refl _)
        · refine X_iinc hK (i := 2) (z := z34) (n := 1) 0 [(2, .int (iI (z34 + 1))), (0, .ref a0), (1, .int (iI x1))] kd27_2.2.2.2.1 rfl (by decide) rfl ?_
          refine X_goto hK 2 kd27_2.2.2.2.2.1 (by decide) ?_
          exact ihP45  (z34 + 1) (by omega) (by omega) (by omega) (by omega)
  exact P45 ((436 - x1 : Int).toNat + 1) x1 (by omega) (by omega) (by omega) (by omega)

set_option maxHeartbeats 4000000 in
set_option maxRecDepth 100000 in
theorem c_X7_now (l : Launch) (D : va_G) (kA : Nat → ClassId) (b0 : Nat) (t0 : Nat → Nat) (S : xT) (g : xG) (a0 : Nat) (n0 : Int) (hs_a0 : S a0 = some (8, 0)) (hn0 : 0 ≤ n0 ∧ n0 ≤ 301) (en0 : g a0 2 = .int (iI n0)) : xMt l yX7_now cX7_now 1 (some .int) 0 0 0 0 D kA b0 t0 [] [.ref a0] S g (fun (r : Option Value) (S1 : xT) (g1 : xG) => S = S1 ∧ g = g1 ∧ ∃ z : Int, r = some (.int (iI z)) ∧ 0 ≤ z ∧ z ≤ 10099 ∧ (z = 23 ∨ n0 ≤ 300)) := by
  refine xEnterI (by decide) (by simp [lg_sl, Value.category]) [(0, .ref a0)] rfl ?_
  intro K E hK hret _ _ _
  refine X_aloadn hK (i := 0) 0 kd27_2.2.2.2.2.2.2.2.1 rfl rfl ?_
  refine X_getK hK fl_X7_18_8 hs_a0 en0 kd27_2.2.2.2.2.2.2.2.2.1 ?_
  refine X_aloadn hK (i := 0) 0 kd27_2.2.2.2.2.2.2.2.2.2.1 rfl rfl ?_
  refine X_getr hK 12900 301 fl_X7_9_8 hs_a0 sl_8_0 kd27_2.2.2.2.2.2.2.2.2.2.2.1 (fun b1 eb1 hs_b1 => ?_)
  refine X_alen hK (i := 0) (ty := .int) hs_b1 (by decide) (by decide) (fun _ => rfl) kd27_2.2.2.2.2.2.2.2.2.2.2.2 ?_
  refine X_icmp_ge hK 24 (by omega) (by omega) kd27_3.1 (by decide) (fun c2 => ?_) (fun c2 => ?_)
  · refine X_bipush hK kd27_3.2.2.2.2.2.2.2.1 (by decide) ?_
    exact hret _ _ _ _ _ _ _ kd27_3.2.2.2.2.2.2.2.2.1 ⟨rfl, rfl, 23, rfl, (by omega), (by omega), (by omega)⟩ (Nat.le_refl _) (Nat.le_refl _)
  · refine X_aloadn hK (i := 0) 0 kd27_3.2.1 rfl rfl ?_
    refine X_getK hK fl_X7_9_8 hs_a0 eb1 kd27_3.2.2.1 ?_
    refine X_aloadn hK (i := 0) 0 kd27_3.2.2.2.1 rfl rfl ?_
    refine X_getK hK fl_X7_18_8 hs_a0 en0 kd27_3.2.2.2.2.1 ?_
    refine X_iald hK hs_b1 (by decide) sl_12900 (by omega) (by omega) kd27_3.2.2.2.2.2.1 (fun z3 ez3 lz3 uz3 => ?_)
    refine X_goto hK 26 kd27_3.2.2.2.2.2.2.1 (by decide) ?_
    exact hret _ _ _ _ _ _ _ kd27_3.2.2.2.2.2.2.2.2.1 ⟨rfl, rfl, z3, rfl, (by omega), (by omega), (by omega)⟩ (Nat.le_refl _) (Nat.le_refl _)

set_option maxHeartbeats 4000000 in
set_option maxRecDepth 100000 in
theorem c_X7_tell (l : Launch) (D : va_G) (kA : Nat → ClassId) (b0 : Nat) (t0 : Nat → Nat) (S : xT) (g : xG) (a0 : Nat) (x1 : Int) (hs_a0 : S a0 = some (8, 0)) (hx1 : (-2147483648) ≤ x1 ∧ x1 ≤ 2147483647) : xMt l yX7_tell cX7_tell 2 none 0 0 0 0 D kA b0 t0 [(8, 5), (8, 6)] [.ref a0, .int (iI x1)] S g (fun (r : Option Value) (S1 : xT) (g1 : xG) => S = S1 ∧ r = none) := by
  refine xEnterV (by decide) (by simp [lg_sl, Value.category]) [(0, .ref a0), (1, .int (iI x1))] rfl ?_
  intro K E hK hret _ _ _
  refine X_aloadn hK (i := 0) 0 kd27_3.2.2.2.2.2.2.2.2.2.1 rfl rfl ?_
  refine X_geti hK fl_X7_29_8 hs_a0 sl_8_5 kd27_3.2.2.2.2.2.2.2.2.2.2.1 (fun z1 ez1 lz1 uz1 => ?_)
  refine X_if_ne hK 43 (by omega) kd27_3.2.2.2.2.2.2.2.2.2.2.2 (by decide) (fun c2 => ?_) (fun c2 => ?_)
  · exact hret _ _ _ _ _ _ kd27_5.2.2.2.2.2.2 ⟨rfl, rfl⟩ (Nat.le_refl _) (Nat.le_refl _)
  · refine X_aloadn hK (i := 0) 0 kd27_4.1 rfl rfl ?_
    refine X_iloadn hK (i := 1) 1 kd27_4.2.1 rfl rfl ?_
    refine X_puti hK fl_X7_29_8 hs_a0 (by decide) sl_8_5 (by omega) (by omega) kd27_4.2.2.1 (fun g3 hg3 => ?_)
    refine X_aloadn hK (i := 0) 0 kd27_4.2.2.2.1 rfl rfl ?_
    refine X_aloadn hK (i := 0) 0 kd27_4.2.2.2.2.1 rfl rfl ?_
    refine X_geti hK fl_X7_18_8 hs_a0 sl_8_2 kd27_4.2.2.2.2.2.1 (fun z4 ez4 lz4 uz4 => ?_)
    refine X_aloadn hK (i := 0) 0 kd27_4.2.2.2.2.2.2.1 rfl rfl ?_
    refine X_getr hK 13000 301 fl_X7_15_8 hs_a0 sl_8_1 kd27_4.2.2.2.2.2.2.2.1 (fun b5 eb5 hs_b5 => ?_)
    refine X_alen hK (i := 0) (ty := .int) hs_b5 (by decide) (by decide) (fun _ => rfl) kd27_4.2.2.2.2.2.2.2.2.1 ?_
    refine X_icmp_ge hK 37 (by omega) (by omega) kd27_4.2.2.2.2.2.2.2.2.2.1 (by decide) (fun c6 => ?_) (fun c6 => ?_)
    · refine X_sipush hK kd27_5.2.2.2.2.1 (by decide) ?_
      refine X_puti hK fl_X7_32_8 hs_a0 (by decide) sl_8_6 (by omega) (by omega) kd27_5.2.2.2.2.2.1 (fun g7 hg7 => ?_)
      exact hret _ _ _ _ _ _ kd27_5.2.2.2.2.2.2 ⟨rfl, rfl⟩ (Nat.le_refl _) (Nat.le_refl _)
    · refine X_aloadn hK (i := 0) 0 kd27_4.2.2.2.2.2.2.2.2.2.2.1 rfl rfl ?_
      refine X_getK hK fl_X7_15_8 hs_a0 eb5 kd27_4.2.2.2.2.2.2.2.2.2.2.2 ?_
      refine X_aloadn hK (i := 0) 0 kd27_5.1 rfl rfl ?_
      refine X_getK hK fl_X7_18_8 hs_a0 ez4 kd27_5.2.1 ?_
      refine X_iald hK hs_b5 (by decide) sl_13000 (by omega) (by omega) kd27_5.2.2.1 (fun z8 ez8 lz8 uz8 => ?_)
      refine X_goto hK 40 kd27_5.2.2.2.1 (by decide) ?_
      refine X_puti hK fl_X7_32_8 hs_a0 (by decide) sl_8_6 (by omega) (by omega) kd27_5.2.2.2.2.2.1 (fun g9 hg9 => ?_)
      exact hret _ _ _ _ _ _ kd27_5.2.2.2.2.2.2 ⟨rfl, rfl⟩ (Nat.le_refl _) (Nat.le_refl _)

set_option maxHeartbeats 4000000 in
set_option maxRecDepth 100000 in
theorem c_X7_expect (l : Launch) (D : va_G) (kA : Nat → ClassId) (b0 : Nat) (t0 : Nat → Nat) (S : xT) (g : xG) (a0 : Nat) (x1 : Int) (hs_a0 : S a0 = some (8, 0)) (hx1 : 24 ≤ x1 ∧ x1 ≤ 26) : xMt l yX7_expect cX7_expect 2 none 1 0 0 21 D kA b0 t0 [(8, 5), (8, 6), (8, 2)] [.ref a0, .int (iI x1)] S g (fun (r : Option Value) (S1 : xT) (g1 : xG) => S = S1 ∧ r = none) := by
  refine xEnterV (by decide) (by simp [lg_sl, Value.category]) [(0, .ref a0), (1, .int (iI x1))] rfl ?_
  intro K E hK hret _ _ _
  refine X_aloadn hK (i := 0) 0 kd27_0.1 rfl rfl ?_
  refine X_know hs_a0 (by decide) sl_8_2 (fun z1 ez1 lz1 uz1 => ?_)
  refine X_callV hK [] [] lk_X7_47 (c_X7_now _ _ _ _ _ S g a0 z1 hs_a0 (by omega) ez1) hs_a0 ⟨by decide, rfl⟩ kd27_0.2.1 rfl rfl (by simp [Value.category]) (by decide) (by decide) (by decide) (by decide) (fun r2 S4 g3 pr2 qr2 hg3 => ?_)
  obtain ⟨rfl, rfl, z5, rfl, lz5, uz5, k6⟩ := pr2
  refine X_st [.int (iI z5)] rfl ?_
  refine X_iloadn hK (i := 1) 1 kd27_0.2.2.1 rfl rfl ?_
  refine X_icmp_ne hK 21 (by omega) (by omega) kd27_0.2.2.2.1 (by decide) (fun c7 => ?_) (fun c7 => ?_)
  · refine X_aloadn hK (i := 0) 0 kd27_0.2.2.2.2.2.2.2.2.2.2.2 rfl rfl ?_
    refine X_iconst hK kd27_1.1 ?_
    refine X_callV hK [.int (iI 1)] [] lk_X7_60 (c_X7_tell _ _ _ _ _ S g a0 1 hs_a0 (by omega)) hs_a0 ⟨by decide, rfl⟩ kd27_1.2.1 rfl rfl (by simp [Value.category]) (by decide) (by decide) (by decide) (by decide) (fun r8 S10 g9 pr8 qr8 hg9 => ?_)
    obtain ⟨rfl, rfl⟩ := pr8
    refine X_st [] rfl ?_
    exact hret _ _ _ _ _ _ kd27_1.2.2.1 ⟨rfl, rfl⟩ (Nat.le_refl _) (Nat.le_refl _)
  · refine X_aloadn hK (i := 0) 0 kd27_0.2.2.2.2.1 rfl rfl ?_
    refine X_dup hK kd27_0.2.2.2.2.2.1 rfl ?_
    refine X_getK hK fl_X7_18_8 hs_a0 ez1 kd27_0.2.2.2.2.2.2.1 ?_
    refine X_iconst hK kd27_0.2.2.2.2.2.2.2.1 ?_
    refine X_iadd hK kd27_0.2.2.2.2.2.2.2.2.1 ?_
    refine X_puti hK fl_X7_18_8 hs_a0 (by decide) sl_8_2 (by omega) (by omega) kd27_0.2.2.2.2.2.2.2.2.2.1 (fun g11 hg11 => ?_)
    refine X_goto hK 26 kd27_0.2.2.2.2.2.2.2.2.2.2.1 (by decide) ?_
    exact hret _ _ _ _ _ _ kd27_1.2.2.1 ⟨rfl, rfl⟩ (Nat.le_refl _) (Nat.le_refl _)
