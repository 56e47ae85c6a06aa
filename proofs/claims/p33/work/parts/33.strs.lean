theorem m_23_23 : Cond.initialized RJ0 ∈ wsL_law := ch_23 _ (List.mem_of_getElem? (i := 23) rfl)
theorem m_24_1 : Cond.fieldLink RJ0 9 "java/lang/String" "value" "[B" ∈ wsL_law := ch_24 _ (List.mem_of_getElem? (i := 1) rfl)
theorem m_24_2 : Cond.methodLink RJ0 335 yJ0_coder_7d493 ∈ wsL_law := ch_24 _ (List.mem_of_getElem? (i := 2) rfl)
theorem m_24_3 : Cond.instanceMethod yJ0_coder_7d493 ∈ wsL_law := ch_24 _ (List.mem_of_getElem? (i := 3) rfl)
theorem m_24_4 : Cond.selects RJ0 yJ0_coder_7d493 yJ0_coder_7d493 ∈ wsL_law := ch_24 _ (List.mem_of_getElem? (i := 4) rfl)
theorem m_24_5 : Cond.code yJ0_coder_7d493 cJ0_coder_7d493 1 (some .byte) ∈ wsL_law := ch_24 _ (List.mem_of_getElem? (i := 5) rfl)
theorem m_24_6 : Cond.fieldLink RJ0 38 "java/lang/String" "COMPACT_STRINGS" "Z" ∈ wsL_law := ch_24 _ (List.mem_of_getElem? (i := 6) rfl)
theorem m_24_7 : Cond.fieldLink RJ0 15 "java/lang/String" "coder" "B" ∈ wsL_law := ch_24 _ (List.mem_of_getElem? (i := 7) rfl)
theorem m_24_12 : Cond.methodLink RJ0 492 yJ0_isLatin1_aae02 ∈ wsL_law := ch_24 _ (List.mem_of_getElem? (i := 12) rfl)
theorem m_24_13 : Cond.instanceMethod yJ0_isLatin1_aae02 ∈ wsL_law := ch_24 _ (List.mem_of_getElem? (i := 13) rfl)
theorem m_24_14 : Cond.selects RJ0 yJ0_isLatin1_aae02 yJ0_isLatin1_aae02 ∈ wsL_law := ch_24 _ (List.mem_of_getElem? (i := 14) rfl)
theorem m_24_15 : Cond.code yJ0_isLatin1_aae02 cJ0_isLatin1_aae02 1 (some .boolean) ∈ wsL_law := ch_24 _ (List.mem_of_getElem? (i := 15) rfl)
theorem m_24_16 : Cond.methodLink RJ0 495 yJ1_charAt_3b067 ∈ wsL_law := ch_24 _ (List.mem_of_getElem? (i := 16) rfl)
theorem m_24_17 : Cond.static yJ1_charAt_3b067 ∈ wsL_law := ch_24 _ (List.mem_of_getElem? (i := 17) rfl)
theorem m_24_18 : Cond.initialized RJ1 ∈ wsL_law := ch_24 _ (List.mem_of_getElem? (i := 18) rfl)
theorem m_24_19 : Cond.code yJ1_charAt_3b067 cJ1_charAt_3b067 2 (some .char) ∈ wsL_law := ch_24 _ (List.mem_of_getElem? (i := 19) rfl)
theorem m_24_20 : Cond.methodLink RJ1 9 yJ0_checkIndex_df160 ∈ wsL_law := ch_24 _ (List.mem_of_getElem? (i := 20) rfl)
theorem m_24_21 : Cond.static yJ0_checkIndex_df160 ∈ wsL_law := ch_24 _ (List.mem_of_getElem? (i := 21) rfl)
theorem m_24_22 : Cond.code yJ0_checkIndex_df160 cJ0_checkIndex_df160 2 none ∈ wsL_law := ch_24 _ (List.mem_of_getElem? (i := 22) rfl)
theorem m_24_23 : Cond.fieldLink RJ0 1053 "jdk/internal/util/Preconditions" "SIOOBE_FORMATTER" "Ljava/util/function/BiFunction;" ∈ wsL_law := ch_24 _ (List.mem_of_getElem? (i := 23) rfl)
theorem m_25_0 : Cond.methodLink RJ0 1059 yJ3_checkIndex_8e157 ∈ wsL_law := ch_25 _ (List.mem_of_getElem? (i := 0) rfl)
theorem kd33_0 : (decode cJ0_charAt_5068e 0 = .ok (.aload_n 0, 1)) ∧ (decode cJ0_charAt_5068e 1 = .ok (.invokevirtual 492, 3)) ∧ (decode cJ0_charAt_5068e 4 = .ok (.ifCond .eq 12, 3)) ∧ (decode cJ0_charAt_5068e 7 = .ok (.aload_n 0, 1)) ∧ (decode cJ0_charAt_5068e 8 = .ok (.getfield 9, 3)) ∧ (decode cJ0_charAt_5068e 11 = .ok (.iload_n 1, 1)) ∧ (decode cJ0_charAt_5068e 12 = .ok (.invokestatic 495, 3)) ∧ (decode cJ0_charAt_5068e 15 = .ok (.ireturn, 1)) ∧ (decode cJ0_checkIndex_df160 0 = .ok (.iload_n 0, 1)) ∧ (decode cJ0_checkIndex_df160 1 = .ok (.iload_n 1, 1)) ∧ (decode cJ0_checkIndex_df160 2 = .ok (.getstatic 1053, 3)) ∧ (decode cJ0_checkIndex_df160 5 = .ok (.invokestatic 1059, 3)) := by decide +kernel
theorem kd33_1 : (decode cJ0_checkIndex_df160 8 = .ok (.pop, 1)) ∧ (decode cJ0_checkIndex_df160 9 = .ok (.return_, 1)) ∧ (decode cJ0_coder_7d493 0 = .ok (.getstatic 38, 3)) ∧ (decode cJ0_coder_7d493 3 = .ok (.ifCond .eq 10, 3)) ∧ (decode cJ0_coder_7d493 6 = .ok (.aload_n 0, 1)) ∧ (decode cJ0_coder_7d493 7 = .ok (.getfield 15, 3)) ∧ (decode cJ0_coder_7d493 10 = .ok (.goto 4, 3)) ∧ (decode cJ0_coder_7d493 14 = .ok (.ireturn, 1)) ∧ (decode cJ0_isLatin1_aae02 0 = .ok (.getstatic 38, 3)) ∧ (decode cJ0_isLatin1_aae02 3 = .ok (.ifCond .eq 14, 3)) ∧ (decode cJ0_isLatin1_aae02 6 = .ok (.aload_n 0, 1)) ∧ (decode cJ0_isLatin1_aae02 7 = .ok (.getfield 15, 3)) := by decide +kernel
theorem kd33_2 : (decode cJ0_isLatin1_aae02 10 = .ok (.ifCond .ne 7, 3)) ∧ (decode cJ0_isLatin1_aae02 13 = .ok (.iconst 1, 1)) ∧ (decode cJ0_isLatin1_aae02 14 = .ok (.goto 4, 3)) ∧ (decode cJ0_isLatin1_aae02 18 = .ok (.ireturn, 1)) ∧ (decode cJ0_length_8abf5 0 = .ok (.aload_n 0, 1)) ∧ (decode cJ0_length_8abf5 1 = .ok (.getfield 9, 3)) ∧ (decode cJ0_length_8abf5 4 = .ok (.arraylength, 1)) ∧ (decode cJ0_length_8abf5 5 = .ok (.aload_n 0, 1)) ∧ (decode cJ0_length_8abf5 6 = .ok (.invokevirtual 335, 3)) ∧ (decode cJ0_length_8abf5 9 = .ok (.ishr, 1)) ∧ (decode cJ0_length_8abf5 10 = .ok (.ireturn, 1)) ∧ (decode cJ1_charAt_3b067 0 = .ok (.iload_n 1, 1)) := by decide +kernel
theorem kd33_3 : (decode cJ1_charAt_3b067 1 = .ok (.aload_n 0, 1)) ∧ (decode cJ1_charAt_3b067 2 = .ok (.arraylength, 1)) ∧ (decode cJ1_charAt_3b067 3 = .ok (.invokestatic 9, 3)) ∧ (decode cJ1_charAt_3b067 6 = .ok (.aload_n 0, 1)) ∧ (decode cJ1_charAt_3b067 7 = .ok (.iload_n 1, 1)) ∧ (decode cJ1_charAt_3b067 8 = .ok (.baload, 1)) ∧ (decode cJ1_charAt_3b067 9 = .ok (.sipush 255, 3)) ∧ (decode cJ1_charAt_3b067 12 = .ok (.iand, 1)) ∧ (decode cJ1_charAt_3b067 13 = .ok (.i2c, 1)) ∧ (decode cJ1_charAt_3b067 14 = .ok (.ireturn, 1)) := by decide +kernel
theorem lk_J0_1059 : xLS RJ0 1059 yJ3_checkIndex_8e157 cJ3_checkIndex_8e157 3 (some .int) 3 := ⟨m_25_0, m_16_11, m_16_12, m_16_13, by decide +kernel⟩
theorem lk_J0_335 : xLV RJ0 335 yJ0_coder_7d493 cJ0_coder_7d493 1 (some .byte) 0 := ⟨m_24_2, m_24_3, m_24_4, m_23_23, m_24_5, by decide +kernel⟩
theorem lk_J0_492 : xLV RJ0 492 yJ0_isLatin1_aae02 cJ0_isLatin1_aae02 1 (some .boolean) 0 := ⟨m_24_12, m_24_13, m_24_14, m_23_23, m_24_15, by decide +kernel⟩
theorem lk_J0_495 : xLS RJ0 495 yJ1_charAt_3b067 cJ1_charAt_3b067 2 (some .char) 2 := ⟨m_24_16, m_24_17, m_24_18, m_24_19, by decide +kernel⟩
theorem lk_J1_9 : xLS RJ1 9 yJ0_checkIndex_df160 cJ0_checkIndex_df160 2 none 2 := ⟨m_24_20, m_24_21, m_23_23, m_24_22, by decide +kernel⟩
set_option maxHeartbeats 4000000 in
set_option maxRecDepth 100000 in
theorem c_coder (l : Launch) (D : va_G) (kA : Nat → ClassId) (b0 : Nat) (t0 : Nat → Nat) (S : xT) (g : xG) : xMt l yJ0_coder_7d493 cJ0_coder_7d493 1 (some .byte) 0 0 0 0 D kA b0 t0 [] [.ref (t0 3)] S g (fun (r : Option Value) (S1 : xT) (g1 : xG) => S = S1 ∧ g = g1 ∧ ∃ z : Int, r = some (.int (iI z)) ∧ 0 ≤ z ∧ z ≤ 0) := by
  refine xEnterT 0 1 (fun z h1 h2 => nar_byte h1 h2) (by decide) (by simp [lg_sl, Value.category]) [(0, .ref (t0 3))] rfl ?_
  intro K E hK hret ht
  subst ht
  refine X_gcs hK m_24_6 kd33_1.2.2.1 ?_
  refine X_if_eq hK 13 (by omega) kd33_1.2.2.2.1 (by decide) (fun c1 => False.elim (by omega)) (fun c1 => ?_)
  refine X_aloadn hK (i := 0) 0 kd33_1.2.2.2.2.1 rfl rfl ?_
  refine X_sco hK m_24_7 kd33_1.2.2.2.2.2.1 ?_
  refine X_goto hK 14 kd33_1.2.2.2.2.2.2.1 (by decide) ?_
  exact hret _ _ _ _ _ _ _ kd33_1.2.2.2.2.2.2.2.1 (by omega) (by omega) ⟨rfl, rfl, 0, rfl, (by omega), (by omega)⟩ (Nat.le_refl _) (Nat.le_refl _)

set_option maxHeartbeats 4000000 in
set_option maxRecDepth 100000 in
theorem c_isLatin1 (l : Launch) (D : va_G) (kA : Nat → ClassId) (b0 : Nat) (t0 : Nat → Nat) (S : xT) (g : xG) : xMt l yJ0_isLatin1_aae02 cJ0_isLatin1_aae02 1 (some .boolean) 0 0 0 0 D kA b0 t0 [] [.ref (t0 3)] S g (fun (r : Option Value) (S1 : xT) (g1 : xG) => S = S1 ∧ g = g1 ∧ ∃ z : Int, r = some (.int (iI z)) ∧ 1 ≤ z ∧ z ≤ 1) := by
  refine xEnterT 0 1 (fun z h1 h2 => (b01 h1 h2).1) (by decide) (by simp [lg_sl, Value.category]) [(0, .ref (t0 3))] rfl ?_
  intro K E hK hret ht
  subst ht
  refine X_gcs hK m_24_6 kd33_1.2.2.2.2.2.2.2.2.1 ?_
  refine X_if_eq hK 17 (by omega) kd33_1.2.2.2.2.2.2.2.2.2.1 (by decide) (fun c1 => False.elim (by omega)) (fun c1 => ?_)
  refine X_aloadn hK (i := 0) 0 kd33_1.2.2.2.2.2.2.2.2.2.2.1 rfl rfl ?_
  refine X_sco hK m_24_7 kd33_1.2.2.2.2.2.2.2.2.2.2.2 ?_
  refine X_if_ne hK 17 (by omega) kd33_2.1 (by decide) (fun c2 => False.elim (by omega)) (fun c2 => ?_)
  refine X_iconst hK kd33_2.2.1 ?_
  refine X_goto hK 18 kd33_2.2.2.1 (by decide) ?_
  exact hret _ _ _ _ _ _ _ kd33_2.2.2.2.1 (by omega) (by omega) ⟨rfl, rfl, 1, rfl, (by omega), (by omega)⟩ (Nat.le_refl _) (Nat.le_refl _)

set_option maxHeartbeats 4000000 in
set_option maxRecDepth 100000 in
theorem c_length (l : Launch) (D : va_G) (kA : Nat → ClassId) (b0 : Nat) (t0 : Nat → Nat) (S : xT) (g : xG) : xMt l yJ0_length_8abf5 cJ0_length_8abf5 1 (some .int) 1 0 0 20 D kA b0 t0 [] [.ref (t0 3)] S g (fun (r : Option Value) (S1 : xT) (g1 : xG) => S = S1 ∧ g = g1 ∧ ∃ z : Int, r = some (.int (iI z)) ∧ 114 ≤ z ∧ z ≤ 114) := by
  refine xEnterT (-2147483648) 2147483647 (fun z h1 h2 => rfl) (by decide) (by simp [lg_sl, Value.category]) [(0, .ref (t0 3))] rfl ?_
  intro K E hK hret ht
  subst ht
  refine X_aloadn hK (i := 0) 0 kd33_2.2.2.2.2.1 rfl rfl ?_
  refine X_sval hK m_24_1 kd33_2.2.2.2.2.2.1 ?_
  refine X_slen hK kd33_2.2.2.2.2.2.2.1 ?_
  refine X_aloadn hK (i := 0) 0 kd33_2.2.2.2.2.2.2.2.1 rfl rfl ?_
  refine X_callVs hK [] [.int (iI 114)] lk_J0_335 rfl (c_coder _ _ _ _ _ S g) kd33_2.2.2.2.2.2.2.2.2.1 rfl rfl (by simp [Value.category]) (by decide) (by decide) (by decide) (by decide) (fun r1 S1 g1 p1 q1 h1 => ?_)
  obtain ⟨rfl, rfl, z1, rfl, l1, u1⟩ := p1
  refine X_st [.int (iI z1), .int (iI 114)] rfl ?_
  have e1 : z1 = 0 := by omega
  subst e1
  refine X_ishr hK kd33_2.2.2.2.2.2.2.2.2.2.1 (fun z e l u => ?_)
  have e2 : z = 114 := by
    have h9 : iI 114 >>> (iI 0 &&& 31) = iI 114 := by decide
    exact (iI_eq (by omega) (by omega)).mp (e.symm.trans h9)
  exact hret _ _ _ _ _ _ _ kd33_2.2.2.2.2.2.2.2.2.2.2.1 (by omega) (by omega) ⟨rfl, rfl, z, rfl, (by omega), (by omega)⟩ (Nat.le_refl _) (Nat.le_refl _)

set_option maxHeartbeats 4000000 in
set_option maxRecDepth 100000 in
theorem c_checkIndex_q (l : Launch) (D : va_G) (kA : Nat → ClassId) (b0 : Nat) (t0 : Nat → Nat) (S : xT) (g : xG) (x0 : Int) (x1 : Int) (q2 : Nat) (hx0 : 0 ≤ x0 ∧ x0 ≤ 2147483647) (hx1 : 0 ≤ x1 ∧ x1 ≤ 2147483647) (hp0 : x0 < x1) : xMt l yJ3_checkIndex_8e157 cJ3_checkIndex_8e157 3 (some .int) 0 0 0 0 D kA b0 t0 [] [.int (iI x0), .int (iI x1), .ref q2] S g (fun (r : Option Value) (S1 : xT) (g1 : xG) => S = S1 ∧ g = g1 ∧ ∃ z : Int, r = some (.int (iI z)) ∧ 0 ≤ z ∧ z ≤ 2147483647) := by
  refine xEnterI (by decide) (by simp [lg_sl, Value.category]) [(0, .int (iI x0)), (1, .int (iI x1)), (2, .ref q2)] rfl ?_
  intro K E hK hret _ _ _
  refine X_iloadn hK (i := 0) 0 kd31_0.2.2.2.2.2.1 rfl rfl ?_
  refine X_if_lt hK 9 (by omega) kd31_0.2.2.2.2.2.2.1 (by decide) (fun c1 => False.elim (by omega)) (fun c1 => ?_)
  refine X_iloadn hK (i := 0) 0 kd31_0.2.2.2.2.2.2.2.1 rfl rfl ?_
  refine X_iloadn hK (i := 1) 1 kd31_0.2.2.2.2.2.2.2.2.1 rfl rfl ?_
  refine X_icmp_lt hK 16 (by omega) (by omega) kd31_0.2.2.2.2.2.2.2.2.2.1 (by decide) (fun c2 => ?_) (fun c2 => False.elim (by omega))
  refine X_iloadn hK (i := 0) 0 kd31_0.2.2.2.2.2.2.2.2.2.2.1 rfl rfl ?_
  exact hret _ _ _ _ _ _ _ kd31_0.2.2.2.2.2.2.2.2.2.2.2 ⟨rfl, rfl, x0, rfl, (by omega), (by omega)⟩ (Nat.le_refl _) (Nat.le_refl _)

set_option maxHeartbeats 4000000 in
set_option maxRecDepth 100000 in
theorem c_checkIndexS (l : Launch) (D : va_G) (kA : Nat → ClassId) (b0 : Nat) (t0 : Nat → Nat) (S : xT) (g : xG) (x0 : Int) (x1 : Int) (hx0 : 0 ≤ x0 ∧ x0 ≤ 2147483647) (hx1 : 0 ≤ x1 ∧ x1 ≤ 2147483647) (hp0 : x0 < x1) : xMt l yJ0_checkIndex_df160 cJ0_checkIndex_df160 2 none 1 0 0 22 D kA b0 t0 [] [.int (iI x0), .int (iI x1)] S g (fun (r : Option Value) (S1 : xT) (g1 : xG) => S = S1 ∧ g = g1 ∧ r = none) := by
  refine xEnterV (by decide) (by simp [lg_sl, Value.category]) [(0, .int (iI x0)), (1, .int (iI x1))] rfl ?_
  intro K E hK hret _ _ _
  refine X_iloadn hK (i := 0) 0 kd33_0.2.2.2.2.2.2.2.2.1 rfl rfl ?_
  refine X_iloadn hK (i := 1) 1 kd33_0.2.2.2.2.2.2.2.2.2.1 rfl rfl ?_
  refine X_gfm hK m_24_23 kd33_0.2.2.2.2.2.2.2.2.2.2.1 ?_ (fun q9 => ?_)
  · skip
    refine X_callS hK [.int (iI x0), .int (iI x1), .null] [] lk_J0_1059 (c_J3_checkIndex_8e157 _ _ _ _ _ S g x0 x1 (by omega) (by omega) (by omega)) kd33_0.2.2.2.2.2.2.2.2.2.2.2 rfl rfl (by simp [Value.category]) (by decide) (by decide) (by decide) (by decide) (fun r1 S1 g1 p1 q1 h1 => ?_)
    obtain ⟨rfl, rfl, z1, rfl, l1, u1⟩ := p1
    refine X_st [.int (iI z1)] rfl ?_
    refine X_pop hK kd33_1.1 rfl ?_
    exact hret _ _ _ _ _ _ kd33_1.2.1 ⟨rfl, rfl, rfl⟩ (Nat.le_refl _) (Nat.le_refl _)
  · skip
    refine X_callS hK [.int (iI x0), .int (iI x1), .ref q9] [] lk_J0_1059 (c_checkIndex_q _ _ _ _ _ S g x0 x1 q9 (by omega) (by omega) (by omega)) kd33_0.2.2.2.2.2.2.2.2.2.2.2 rfl rfl (by simp [Value.category]) (by decide) (by decide) (by decide) (by decide) (fun r1 S1 g1 p1 q1 h1 => ?_)
    obtain ⟨rfl, rfl, z1, rfl, l1, u1⟩ := p1
    refine X_st [.int (iI z1)] rfl ?_
    refine X_pop hK kd33_1.1 rfl ?_
    exact hret _ _ _ _ _ _ kd33_1.2.1 ⟨rfl, rfl, rfl⟩ (Nat.le_refl _) (Nat.le_refl _)

set_option maxHeartbeats 4000000 in
set_option maxRecDepth 100000 in
theorem c_charAtL (l : Launch) (D : va_G) (kA : Nat → ClassId) (b0 : Nat) (t0 : Nat → Nat) (S : xT) (g : xG) (x1 : Int) (hx1 : 0 ≤ x1 ∧ x1 ≤ 113) : xMt l yJ1_charAt_3b067 cJ1_charAt_3b067 2 (some .char) 2 0 0 43 D kA b0 t0 [] [.ref (t0 4), .int (iI x1)] S g (fun (r : Option Value) (S1 : xT) (g1 : xG) => S = S1 ∧ g = g1 ∧ ∃ z : Int, r = some (.int (iI z)) ∧ 0 ≤ z ∧ z ≤ 255) := by
  refine xEnterT 0 65535 (fun z h1 h2 => nar_char h1 h2) (by decide) (by simp [lg_sl, Value.category]) [(0, .ref (t0 4)), (1, .int (iI x1))] rfl ?_
  intro K E hK hret ht
  subst ht
  refine X_iloadn hK (i := 1) 1 kd33_2.2.2.2.2.2.2.2.2.2.2.2 rfl rfl ?_
  refine X_aloadn hK (i := 0) 0 kd33_3.1 rfl rfl ?_
  refine X_slen hK kd33_3.2.1 ?_
  refine X_callS hK [.int (iI x1), .int (iI 114)] [] lk_J1_9 (c_checkIndexS _ _ _ _ _ S g x1 114 (by omega) (by omega) (by omega)) kd33_3.2.2.1 rfl rfl (by simp [Value.category]) (by decide) (by decide) (by decide) (by decide) (fun r1 S1 g1 p1 q1 h1 => ?_)
  obtain ⟨rfl, rfl, rfl⟩ := p1
  refine X_st [] rfl ?_
  refine X_aloadn hK (i := 0) 0 kd33_3.2.2.2.1 rfl rfl ?_
  refine X_iloadn hK (i := 1) 1 kd33_3.2.2.2.2.1 rfl rfl ?_
  refine X_sbl hK (by omega) (by omega) kd33_3.2.2.2.2.2.1 (fun z2 l2 u2 => ?_)
  refine X_sipush hK kd33_3.2.2.2.2.2.2.1 (by decide) ?_
  refine X_iand hK kd33_3.2.2.2.2.2.2.2.1 (fun z3 e3 l3 u3 => ?_)
  have b3 := xandB e3 ⟨l3, u3⟩ (by omega)
  refine X_i2c hK (by omega) kd33_3.2.2.2.2.2.2.2.2.1 ?_
  exact hret _ _ _ _ _ _ _ kd33_3.2.2.2.2.2.2.2.2.2 (by omega) (by omega) ⟨rfl, rfl, z3, rfl, (by omega), (by omega)⟩ (Nat.le_refl _) (Nat.le_refl _)

set_option maxHeartbeats 4000000 in
set_option maxRecDepth 100000 in
theorem c_charAt (l : Launch) (D : va_G) (kA : Nat → ClassId) (b0 : Nat) (t0 : Nat → Nat) (S : xT) (g : xG) (x1 : Int) (hx1 : 0 ≤ x1 ∧ x1 ≤ 113) : xMt l yJ0_charAt_5068e cJ0_charAt_5068e 2 (some .char) 3 0 0 64 D kA b0 t0 [] [.ref (t0 3), .int (iI x1)] S g (fun (r : Option Value) (S1 : xT) (g1 : xG) => S = S1 ∧ g = g1 ∧ ∃ z : Int, r = some (.int (iI z)) ∧ 0 ≤ z ∧ z ≤ 255) := by
  refine xEnterT 0 65535 (fun z h1 h2 => nar_char h1 h2) (by decide) (by simp [lg_sl, Value.category]) [(0, .ref (t0 3)), (1, .int (iI x1))] rfl ?_
  intro K E hK hret ht
  subst ht
  refine X_aloadn hK (i := 0) 0 kd33_0.1 rfl rfl ?_
  refine X_callVs hK [] [] lk_J0_492 rfl (c_isLatin1 _ _ _ _ _ S g) kd33_0.2.1 rfl rfl (by simp [Value.category]) (by decide) (by decide) (by decide) (by decide) (fun r1 S1 g1 p1 q1 h1 => ?_)
  obtain ⟨rfl, rfl, z1, rfl, l1, u1⟩ := p1
  refine X_st [.int (iI z1)] rfl ?_
  refine X_if_eq hK 16 (by omega) kd33_0.2.2.1 (by decide) (fun c1 => False.elim (by omega)) (fun c1 => ?_)
  refine X_aloadn hK (i := 0) 0 kd33_0.2.2.2.1 rfl rfl ?_
  refine X_sval hK m_24_1 kd33_0.2.2.2.2.1 ?_
  refine X_iloadn hK (i := 1) 1 kd33_0.2.2.2.2.2.1 rfl rfl ?_
  refine X_callS hK [.ref (E.2.2.2.2.2.2.2 4), .int (iI x1)] [] lk_J0_495 (c_charAtL _ _ _ _ _ S g x1 (by omega)) kd33_0.2.2.2.2.2.2.1 rfl rfl (by simp [Value.category]) (by decide) (by decide) (by decide) (by decide) (fun r2 S2 g2 p2 q2 h2 => ?_)
  obtain ⟨rfl, rfl, z2, rfl, l2, u2⟩ := p2
  refine X_st [.int (iI z2)] rfl ?_
  exact hret _ _ _ _ _ _ _ kd33_0.2.2.2.2.2.2.2.1 (by omega) (by omega) ⟨rfl, rfl, z2, rfl, (by omega), (by omega)⟩ (Nat.le_refl _) (Nat.le_refl _)
