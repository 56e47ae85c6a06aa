theorem m_2_5 : Cond.initialized RJx4a65c ∈ wsL_law := ch_2 _ (List.mem_of_getElem? (i := 5) rfl)
theorem m_5_0 : Cond.fieldLink RJx4a65c 9 "java/util/ArrayList" "elementData" "[Ljava/lang/Object;" ∈ wsL_law := ch_5 _ (List.mem_of_getElem? (i := 0) rfl)
theorem m_12_7 : Cond.fieldLink RJx4a65c 48 "java/util/ArrayList" "size" "I" ∈ wsL_law := ch_12 _ (List.mem_of_getElem? (i := 7) rfl)
theorem m_16_6 : Cond.methodLink RJx4a65c 118 yJ15_checkIndex_7cf53 ∈ wsL_law := ch_16 _ (List.mem_of_getElem? (i := 6) rfl)
theorem m_16_7 : Cond.static yJ15_checkIndex_7cf53 ∈ wsL_law := ch_16 _ (List.mem_of_getElem? (i := 7) rfl)
theorem m_16_8 : Cond.initialized RJ15 ∈ wsL_law := ch_16 _ (List.mem_of_getElem? (i := 8) rfl)
theorem m_16_9 : Cond.code yJ15_checkIndex_7cf53 cJ15_checkIndex_7cf53 2 (some .int) ∈ wsL_law := ch_16 _ (List.mem_of_getElem? (i := 9) rfl)
theorem m_16_10 : Cond.methodLink RJ15 105 yJ3_checkIndex_8e157 ∈ wsL_law := ch_16 _ (List.mem_of_getElem? (i := 10) rfl)
theorem m_16_11 : Cond.static yJ3_checkIndex_8e157 ∈ wsL_law := ch_16 _ (List.mem_of_getElem? (i := 11) rfl)
theorem m_16_12 : Cond.initialized RJ3 ∈ wsL_law := ch_16 _ (List.mem_of_getElem? (i := 12) rfl)
theorem m_16_13 : Cond.code yJ3_checkIndex_8e157 cJ3_checkIndex_8e157 3 (some .int) ∈ wsL_law := ch_16 _ (List.mem_of_getElem? (i := 13) rfl)
theorem m_16_14 : Cond.methodLink RJx4a65c 123 yJx4a65c_elementData_915e3 ∈ wsL_law := ch_16 _ (List.mem_of_getElem? (i := 14) rfl)
theorem m_16_15 : Cond.instanceMethod yJx4a65c_elementData_915e3 ∈ wsL_law := ch_16 _ (List.mem_of_getElem? (i := 15) rfl)
theorem m_16_16 : Cond.selects RJx4a65c yJx4a65c_elementData_915e3 yJx4a65c_elementData_915e3 ∈ wsL_law := ch_16 _ (List.mem_of_getElem? (i := 16) rfl)
theorem m_16_17 : Cond.code yJx4a65c_elementData_915e3 cJx4a65c_elementData_915e3 2 (some (.object "java/lang/Object")) ∈ wsL_law := ch_16 _ (List.mem_of_getElem? (i := 17) rfl)
theorem kd31_0 : (decode cJ15_checkIndex_7cf53 0 = .ok (.iload_n 0, 1)) ∧ (decode cJ15_checkIndex_7cf53 1 = .ok (.iload_n 1, 1)) ∧ (decode cJ15_checkIndex_7cf53 2 = .ok (.aconst_null, 1)) ∧ (decode cJ15_checkIndex_7cf53 3 = .ok (.invokestatic 105, 3)) ∧ (decode cJ15_checkIndex_7cf53 6 = .ok (.ireturn, 1)) ∧ (decode cJ3_checkIndex_8e157 0 = .ok (.iload_n 0, 1)) ∧ (decode cJ3_checkIndex_8e157 1 = .ok (.ifCond .lt 8, 3)) ∧ (decode cJ3_checkIndex_8e157 4 = .ok (.iload_n 0, 1)) ∧ (decode cJ3_checkIndex_8e157 5 = .ok (.iload_n 1, 1)) ∧ (decode cJ3_checkIndex_8e157 6 = .ok (.if_icmp .lt 10, 3)) ∧ (decode cJ3_checkIndex_8e157 16 = .ok (.iload_n 0, 1)) ∧ (decode cJ3_checkIndex_8e157 17 = .ok (.ireturn, 1)) := by decide +kernel
theorem kd31_1 : (decode cJx4a65c_elementData_915e3 0 = .ok (.aload_n 0, 1)) ∧ (decode cJx4a65c_elementData_915e3 1 = .ok (.getfield 9, 3)) ∧ (decode cJx4a65c_elementData_915e3 4 = .ok (.iload_n 1, 1)) ∧ (decode cJx4a65c_elementData_915e3 5 = .ok (.aaload, 1)) ∧ (decode cJx4a65c_elementData_915e3 6 = .ok (.areturn, 1)) ∧ (decode cJx4a65c_get_915e3 0 = .ok (.iload_n 1, 1)) ∧ (decode cJx4a65c_get_915e3 1 = .ok (.aload_n 0, 1)) ∧ (decode cJx4a65c_get_915e3 2 = .ok (.getfield 48, 3)) ∧ (decode cJx4a65c_get_915e3 5 = .ok (.invokestatic 118, 3)) ∧ (decode cJx4a65c_get_915e3 8 = .ok (.pop, 1)) ∧ (decode cJx4a65c_get_915e3 9 = .ok (.aload_n 0, 1)) ∧ (decode cJx4a65c_get_915e3 10 = .ok (.iload_n 1, 1)) := by decide +kernel
theorem kd31_2 : (decode cJx4a65c_get_915e3 11 = .ok (.invokevirtual 123, 3)) ∧ (decode cJx4a65c_get_915e3 14 = .ok (.areturn, 1)) ∧ (decode cJx4a65c_size_8abf5 0 = .ok (.aload_n 0, 1)) ∧ (decode cJx4a65c_size_8abf5 1 = .ok (.getfield 48, 3)) ∧ (decode cJx4a65c_size_8abf5 4 = .ok (.ireturn, 1)) := by decide +kernel
theorem fl_Jx4a65c_48_0 : xF RJx4a65c 48 0 2 .int false := ⟨by decide, RJx4a65c, TJx4a65c, 3, tyJx4a65c, "java/util/ArrayList", rfl, inlJx4a65c, tyJx4a65c_ok, nmJx4a65c, by decide, rfl, rfl, m_12_7, Or.inl rfl⟩
theorem fl_Jx4a65c_48_100 : xF RJx4a65c 48 100 2 .int false := ⟨by decide, RJx4a65c, TJx4a65c, 3, tyJx4a65c, "java/util/ArrayList", rfl, inlJx4a65c, tyJx4a65c_ok, nmJx4a65c, by decide, rfl, rfl, m_12_7, Or.inl rfl⟩
theorem fl_Jx4a65c_48_200 : xF RJx4a65c 48 200 2 .int false := ⟨by decide, RJx4a65c, TJx4a65c, 3, tyJx4a65c, "java/util/ArrayList", rfl, inlJx4a65c, tyJx4a65c_ok, nmJx4a65c, by decide, rfl, rfl, m_12_7, Or.inl rfl⟩
theorem fl_Jx4a65c_48_300 : xF RJx4a65c 48 300 2 .int false := ⟨by decide, RJx4a65c, TJx4a65c, 3, tyJx4a65c, "java/util/ArrayList", rfl, inlJx4a65c, tyJx4a65c_ok, nmJx4a65c, by decide, rfl, rfl, m_12_7, Or.inl rfl⟩
theorem fl_Jx4a65c_9_0 : xF RJx4a65c 9 0 1 (.array (.object "java/lang/Object")) false := ⟨by decide, RJx4a65c, TJx4a65c, 3, tyJx4a65c, "java/util/ArrayList", rfl, inlJx4a65c, tyJx4a65c_ok, nmJx4a65c, by decide, rfl, rfl, m_5_0, Or.inl rfl⟩
theorem fl_Jx4a65c_9_100 : xF RJx4a65c 9 100 1 (.array (.object "java/lang/Object")) false := ⟨by decide, RJx4a65c, TJx4a65c, 3, tyJx4a65c, "java/util/ArrayList", rfl, inlJx4a65c, tyJx4a65c_ok, nmJx4a65c, by decide, rfl, rfl, m_5_0, Or.inl rfl⟩
theorem fl_Jx4a65c_9_200 : xF RJx4a65c 9 200 1 (.array (.object "java/lang/Object")) false := ⟨by decide, RJx4a65c, TJx4a65c, 3, tyJx4a65c, "java/util/ArrayList", rfl, inlJx4a65c, tyJx4a65c_ok, nmJx4a65c, by decide, rfl, rfl, m_5_0, Or.inl rfl⟩
theorem fl_Jx4a65c_9_300 : xF RJx4a65c 9 300 1 (.array (.object "java/lang/Object")) false := ⟨by decide, RJx4a65c, TJx4a65c, 3, tyJx4a65c, "java/util/ArrayList", rfl, inlJx4a65c, tyJx4a65c_ok, nmJx4a65c, by decide, rfl, rfl, m_5_0, Or.inl rfl⟩
theorem lk_J15_105 : xLS RJ15 105 yJ3_checkIndex_8e157 cJ3_checkIndex_8e157 3 (some .int) 3 := ⟨m_16_10, m_16_11, m_16_12, m_16_13, by decide +kernel⟩
theorem lk_Jx4a65c_118 : xLS RJx4a65c 118 yJ15_checkIndex_7cf53 cJ15_checkIndex_7cf53 2 (some .int) 2 := ⟨m_16_6, m_16_7, m_16_8, m_16_9, by decide +kernel⟩
theorem lk_Jx4a65c_123 : xLV RJx4a65c 123 yJx4a65c_elementData_915e3 cJx4a65c_elementData_915e3 2 (some (.object "java/lang/Object")) 1 := ⟨m_16_14, m_16_15, m_16_16, m_2_5, m_16_17, by decide +kernel⟩
set_option maxHeartbeats 4000000 in
set_option maxRecDepth 100000 in
theorem c_J3_checkIndex_8e157 (l : Launch) (D : va_G) (kA : Nat → ClassId) (b0 : Nat) (t0 : Nat → Nat) (S : xT) (g : xG) (x0 : Int) (x1 : Int) (hx0 : 0 ≤ x0 ∧ x0 ≤ 2147483647) (hx1 : 0 ≤ x1 ∧ x1 ≤ 2147483647) (hp0 : x0 < x1) : xMt l yJ3_checkIndex_8e157 cJ3_checkIndex_8e157 3 (some .int) 0 0 0 0 D kA b0 t0 [] [.int (iI x0), .int (iI x1), .null] S g (fun (r : Option Value) (S1 : xT) (g1 : xG) => S = S1 ∧ g = g1 ∧ ∃ z : Int, r = some (.int (iI z)) ∧ 0 ≤ z ∧ z ≤ 2147483646) := by
  refine xEnterI (by decide) (by simp [lg_sl, Value.category]) [(0, .int (iI x0)), (1, .int (iI x1)), (2, .null)] rfl ?_
  intro K E hK hret _ _ _
  refine X_iloadn hK (i := 0) 0 kd31_0.2.2.2.2.2.1 rfl rfl ?_
  refine X_if_lt hK 9 (by omega) kd31_0.2.2.2.2.2.2.1 (by decide) (fun c1 => False.elim (by omega)) (fun c1 => ?_)
  refine X_iloadn hK (i := 0) 0 kd31_0.2.2.2.2.2.2.2.1 rfl rfl ?_
  refine X_iloadn hK (i := 1) 1 kd31_0.2.2.2.2.2.2.2.2.1 rfl rfl ?_
  refine X_icmp_lt hK 16 (by omega) (by omega) kd31_0.2.2.2.2.2.2.2.2.2.1 (by decide) (fun c2 => ?_) (fun c2 => False.elim (by omega))
  refine X_iloadn hK (i := 0) 0 kd31_0.2.2.2.2.2.2.2.2.2.2.1 rfl rfl ?_
  exact hret _ _ _ _ _ _ _ kd31_0.2.2.2.2.2.2.2.2.2.2.2 ⟨rfl, rfl, x0, rfl, (by omega), (by omega)⟩ (Nat.le_refl _) (Nat.le_refl _)

set_option maxHeartbeats 4000000 in
set_option maxRecDepth 100000 in
theorem c_J15_checkIndex_7cf53 (l : Launch) (D : va_G) (kA : Nat → ClassId) (b0 : Nat) (t0 : Nat → Nat) (S : xT) (g : xG) (x0 : Int) (x1 : Int) (hx0 : 0 ≤ x0 ∧ x0 ≤ 2147483647) (hx1 : 0 ≤ x1 ∧ x1 ≤ 2147483647) (hp0 : x0 < x1) : xMt l yJ15_checkIndex_7cf53 cJ15_checkIndex_7cf53 2 (some .int) 1 0 0 22 D kA b0 t0 [] [.int (iI x0), .int (iI x1)] S g (fun (r : Option Value) (S1 : xT) (g1 : xG) => S = S1 ∧ g = g1 ∧ ∃ z : Int, r = some (.int (iI z)) ∧ 0 ≤ z ∧ z ≤ 2147483646) := by
  refine xEnterI (by decide) (by simp [lg_sl, Value.category]) [(0, .int (iI x0)), (1, .int (iI x1))] rfl ?_
  intro K E hK hret _ _ _
  refine X_iloadn hK (i := 0) 0 kd31_0.1 rfl rfl ?_
  refine X_iloadn hK (i := 1) 1 kd31_0.2.1 rfl rfl ?_
  refine X_null hK kd31_0.2.2.1 ?_
  refine X_callS hK [.int (iI x0), .int (iI x1), .null] [] lk_J15_105 (c_J3_checkIndex_8e157 _ _ _ _ _ S g x0 x1 (by omega) (by omega) (by omega)) kd31_0.2.2.2.1 rfl rfl (by simp [Value.category]) (by decide) (by decide) (by decide) (by decide) (fun r1 S3 g2 pr1 qr1 hg2 => ?_)
  obtain ⟨rfl, rfl, z4, rfl, lz4, uz4⟩ := pr1
  refine X_st [.int (iI z4)] rfl ?_
  exact hret _ _ _ _ _ _ _ kd31_0.2.2.2.2.1 ⟨rfl, rfl, z4, rfl, (by omega), (by omega)⟩ (Nat.le_refl _) (Nat.le_refl _)

set_option maxHeartbeats 4000000 in
set_option maxRecDepth 100000 in
theorem c_size_0 (l : Launch) (D : va_G) (kA : Nat → ClassId) (b0 : Nat) (t0 : Nat → Nat) (S : xT) (g : xG) (a0 : Nat) (n0 : Int) (hs_a0 : S a0 = some (0, 0)) (hn0 : 0 ≤ n0 ∧ n0 ≤ 2147483647) (en0 : g a0 2 = .int (iI n0)) (hp0 : xLs S g) : xMt l yJx4a65c_size_8abf5 cJx4a65c_size_8abf5 1 (some .int) 0 0 0 0 D kA b0 t0 [] [.ref a0] S g (fun (r : Option Value) (S1 : xT) (g1 : xG) => S = S1 ∧ g = g1 ∧ ∃ z : Int, r = some (.int (iI z)) ∧ 0 ≤ z ∧ z ≤ 40 ∧ (z = n0)) := by
  refine xEnterI (by decide) (by simp [lg_sl, Value.category]) [(0, .ref a0)] rfl ?_
  intro K E hK hret _ _ _
  obtain ⟨b, n, z, eb, hb, hn, ez, q0, q1, q2, hel⟩ := (xLs_0 hp0).2 a0 0 hs_a0
  have hz : n0 = z := xinj en0 ez (by omega) (by omega)
  refine X_aloadn hK (i := 0) 0 kd31_2.2.2.1 rfl rfl ?_
  refine X_getK hK fl_Jx4a65c_48_0 hs_a0 en0 kd31_2.2.2.2.1 ?_
  exact hret _ _ _ _ _ _ _ kd31_2.2.2.2.2 ⟨rfl, rfl, n0, rfl, (by omega), (by omega), rfl⟩ (Nat.le_refl _) (Nat.le_refl _)

set_option maxHeartbeats 4000000 in
set_option maxRecDepth 100000 in
theorem c_elementData_0 (l : Launch) (D : va_G) (kA : Nat → ClassId) (b0 : Nat) (t0 : Nat → Nat) (S : xT) (g : xG) (a0 : Nat) (x1 : Int) (n0 : Int) (hs_a0 : S a0 = some (0, 0)) (hx1 : 0 ≤ x1 ∧ x1 ≤ 39) (hn0 : 0 ≤ n0 ∧ n0 ≤ 2147483647) (en0 : g a0 2 = .int (iI n0)) (hp0 : xLs S g) (hp1 : x1 < n0) : xMt l yJx4a65c_elementData_915e3 cJx4a65c_elementData_915e3 2 (some (.object "java/lang/Object")) 0 0 0 0 D kA b0 t0 [] [.ref a0, .int (iI x1)] S g (fun (r : Option Value) (S1 : xT) (g1 : xG) => S = S1 ∧ g = g1 ∧ ∃ z : Nat, r = some (.ref z) ∧ S z = some (1, 0)) := by
  refine xEnterA (Or.inl ⟨_, rfl⟩) (by decide) (by simp [lg_sl, Value.category]) [(0, .ref a0), (1, .int (iI x1))] rfl ?_
  intro K E hK hret _ _ _
  obtain ⟨b, n, z, eb, hb, hn, ez, q0, q1, q2, hel⟩ := (xLs_0 hp0).2 a0 0 hs_a0
  have hz : n0 = z := xinj en0 ez (by omega) (by omega)
  have hc := xcaps_le hn
  refine X_aloadn hK (i := 0) 0 kd31_1.1 rfl rfl ?_
  refine X_getK hK fl_Jx4a65c_9_0 hs_a0 eb kd31_1.2.1 ?_
  refine X_iloadn hK (i := 1) 1 kd31_1.2.2.1 rfl rfl ?_
  obtain ⟨e, w1, w2⟩ := hel x1.toNat (by omega)
  rcases hb with hb | hb
  · refine X_oaldv hK hb.1 ⟨by decide, by decide, by omega⟩ (by omega) (by omega) kd31_1.2.2.2.1 (fun _ => ?_)
    rw [w1]
    exact hret _ _ _ _ _ _ _ kd31_1.2.2.2.2.1 (Or.inr ⟨_, rfl⟩) ⟨rfl, rfl, e, rfl, w2⟩ (Nat.le_refl _) (Nat.le_refl _)
  · exact False.elim (by omega)

set_option maxHeartbeats 4000000 in
set_option maxRecDepth 100000 in
theorem c_get_0 (l : Launch) (D : va_G) (kA : Nat → ClassId) (b0 : Nat) (t0 : Nat → Nat) (S : xT) (g : xG) (a0 : Nat) (x1 : Int) (n0 : Int) (hs_a0 : S a0 = some (0, 0)) (hx1 : 0 ≤ x1 ∧ x1 ≤ 39) (hn0 : 0 ≤ n0 ∧ n0 ≤ 2147483647) (en0 : g a0 2 = .int (iI n0)) (hp0 : xLs S g) (hp1 : x1 < n0) : xMt l yJx4a65c_get_915e3 cJx4a65c_get_915e3 2 (some (.object "java/lang/Object")) 2 0 0 43 D kA b0 t0 [] [.ref a0, .int (iI x1)] S g (fun (r : Option Value) (S1 : xT) (g1 : xG) => S = S1 ∧ g = g1 ∧ ∃ z : Nat, r = some (.ref z) ∧ S z = some (1, 0)) := by
  refine xEnterA (Or.inl ⟨_, rfl⟩) (by decide) (by simp [lg_sl, Value.category]) [(0, .ref a0), (1, .int (iI x1))] rfl ?_
  intro K E hK hret _ _ _
  refine X_iloadn hK (i := 1) 1 kd31_1.2.2.2.2.2.1 rfl rfl ?_
  refine X_aloadn hK (i := 0) 0 kd31_1.2.2.2.2.2.2.1 rfl rfl ?_
  refine X_getK hK fl_Jx4a65c_48_0 hs_a0 en0 kd31_1.2.2.2.2.2.2.2.1 ?_
  refine X_callS hK [.int (iI x1), .int (iI n0)] [] lk_Jx4a65c_118 (c_J15_checkIndex_7cf53 _ _ _ _ _ S g x1 n0 (by omega) (by omega) (by omega)) kd31_1.2.2.2.2.2.2.2.2.1 rfl rfl (by simp [Value.category]) (by decide) (by decide) (by decide) (by decide) (fun r1 S3 g2 pr1 qr1 hg2 => ?_)
  obtain ⟨rfl, rfl, z4, rfl, lz4, uz4⟩ := pr1
  refine X_st [.int (iI z4)] rfl ?_
  refine X_pop hK kd31_1.2.2.2.2.2.2.2.2.2.1 rfl ?_
  refine X_aloadn hK (i := 0) 0 kd31_1.2.2.2.2.2.2.2.2.2.2.1 rfl rfl ?_
  refine X_iloadn hK (i := 1) 1 kd31_1.2.2.2.2.2.2.2.2.2.2.2 rfl rfl ?_
  refine X_callV hK [.int (iI x1)] [] lk_Jx4a65c_123 (c_elementData_0 _ _ _ _ _ S g a0 x1 n0 hs_a0 (by omega) (by omega) en0 hp0 (by omega)) hs_a0 ⟨by decide, rfl⟩ kd31_2.1 rfl rfl (by simp [Value.category]) (by decide) (by decide) (by decide) (by decide) (fun r5 S7 g6 pr5 qr5 hg6 => ?_)
  obtain ⟨rfl, rfl, b8, rfl, hs_b8⟩ := pr5
  refine X_st [.ref b8] rfl ?_
  exact hret _ _ _ _ _ _ _ kd31_2.2.1 (Or.inr ⟨_, rfl⟩) ⟨rfl, rfl, b8, rfl, hs_b8⟩ (Nat.le_refl _) (Nat.le_refl _)

set_option maxHeartbeats 4000000 in
set_option maxRecDepth 100000 in
theorem c_size_100 (l : Launch) (D : va_G) (kA : Nat → ClassId) (b0 : Nat) (t0 : Nat → Nat) (S : xT) (g : xG) (a0 : Nat) (n0 : Int) (hs_a0 : S a0 = some (100, 0)) (hn0 : 0 ≤ n0 ∧ n0 ≤ 2147483647) (en0 : g a0 2 = .int (iI n0)) (hp0 : xLs S g) : xMt l yJx4a65c_size_8abf5 cJx4a65c_size_8abf5 1 (some .int) 0 0 0 0 D kA b0 t0 [] [.ref a0] S g (fun (r : Option Value) (S1 : xT) (g1 : xG) => S = S1 ∧ g = g1 ∧ ∃ z : Int, r = some (.int (iI z)) ∧ 0 ≤ z ∧ z ≤ 200 ∧ (z = n0)) := by
  refine xEnterI (by decide) (by simp [lg_sl, Value.category]) [(0, .ref a0)] rfl ?_
  intro K E hK hret _ _ _
  obtain ⟨b, n, z, eb, hb, hn, ez, q0, q1, q2, hel⟩ := (xLs_100 hp0).2 a0 0 hs_a0
  have hz : n0 = z := xinj en0 ez (by omega) (by omega)
  refine X_aloadn hK (i := 0) 0 kd31_2.2.2.1 rfl rfl ?_
  refine X_getK hK fl_Jx4a65c_48_100 hs_a0 en0 kd31_2.2.2.2.1 ?_
  exact hret _ _ _ _ _ _ _ kd31_2.2.2.2.2 ⟨rfl, rfl, n0, rfl, (by omega), (by omega), rfl⟩ (Nat.le_refl _) (Nat.le_refl _)

set_option maxHeartbeats 4000000 in
set_option maxRecDepth 100000 in
theorem c_elementData_100 (l : Launch) (D : va_G) (kA : Nat → ClassId) (b0 : Nat) (t0 : Nat → Nat) (S : xT) (g : xG) (a0 : Nat) (x1 : Int) (n0 : Int) (hs_a0 : S a0 = some (100, 0)) (hx1 : 0 ≤ x1 ∧ x1 ≤ 199) (hn0 : 0 ≤ n0 ∧ n0 ≤ 2147483647) (en0 : g a0 2 = .int (iI n0)) (hp0 : xLs S g) (hp1 : x1 < n0) : xMt l yJx4a65c_elementData_915e3 cJx4a65c_elementData_915e3 2 (some (.object "java/lang/Object")) 0 0 0 0 D kA b0 t0 [] [.ref a0, .int (iI x1)] S g (fun (r : Option Value) (S1 : xT) (g1 : xG) => S = S1 ∧ g = g1 ∧ ∃ z : Nat, r = some (.ref z) ∧ S z = some (2, 0)) := by
  refine xEnterA (Or.inl ⟨_, rfl⟩) (by decide) (by simp [lg_sl, Value.category]) [(0, .ref a0), (1, .int (iI x1))] rfl ?_
  intro K E hK hret _ _ _
  obtain ⟨b, n, z, eb, hb, hn, ez, q0, q1, q2, hel⟩ := (xLs_100 hp0).2 a0 0 hs_a0
  have hz : n0 = z := xinj en0 ez (by omega) (by omega)
  have hc := xcaps_le hn
  refine X_aloadn hK (i := 0) 0 kd31_1.1 rfl rfl ?_
  refine X_getK hK fl_Jx4a65c_9_100 hs_a0 eb kd31_1.2.1 ?_
  refine X_iloadn hK (i := 1) 1 kd31_1.2.2.1 rfl rfl ?_
  obtain ⟨e, w1, w2⟩ := hel x1.toNat (by omega)
  rcases hb with hb | hb
  · refine X_oaldv hK hb.1 ⟨by decide, by decide, by omega⟩ (by omega) (by omega) kd31_1.2.2.2.1 (fun _ => ?_)
    rw [w1]
    exact hret _ _ _ _ _ _ _ kd31_1.2.2.2.2.1 (Or.inr ⟨_, rfl⟩) ⟨rfl, rfl, e, rfl, w2⟩ (Nat.le_refl _) (Nat.le_refl _)
  · exact False.elim (by omega)

set_option maxHeartbeats 4000000 in
set_option maxRecDepth 100000 in
theorem c_get_100 (l : Launch) (D : va_G) (kA : Nat → ClassId) (b0 : Nat) (t0 : Nat → Nat) (S : xT) (g : xG) (a0 : Nat) (x1 : Int) (n0 : Int) (hs_a0 : S a0 = some (100, 0)) (hx1 : 0 ≤ x1 ∧ x1 ≤ 199) (hn0 : 0 ≤ n0 ∧ n0 ≤ 2147483647) (en0 : g a0 2 = .int (iI n0)) (hp0 : xLs S g) (hp1 : x1 < n0) : xMt l yJx4a65c_get_915e3 cJx4a65c_get_915e3 2 (some (.object "java/lang/Object")) 2 0 0 43 D kA b0 t0 [] [.ref a0, .int (iI x1)] S g (fun (r : Option Value) (S1 : xT) (g1 : xG) => S = S1 ∧ g = g1 ∧ ∃ z : Nat, r = some (.ref z) ∧ S z = some (2, 0)) := by
  refine xEnterA (Or.inl ⟨_, rfl⟩) (by decide) (by simp [lg_sl, Value.category]) [(0, .ref a0), (1, .int (iI x1))] rfl ?_
  intro K E hK hret _ _ _
  refine X_iloadn hK (i := 1) 1 kd31_1.2.2.2.2.2.1 rfl rfl ?_
  refine X_aloadn hK (i := 0) 0 kd31_1.2.2.2.2.2.2.1 rfl rfl ?_
  refine X_getK hK fl_Jx4a65c_48_100 hs_a0 en0 kd31_1.2.2.2.2.2.2.2.1 ?_
  refine X_callS hK [.int (iI x1), .int (iI n0)] [] lk_Jx4a65c_118 (c_J15_checkIndex_7cf53 _ _ _ _ _ S g x1 n0 (by omega) (by omega) (by omega)) kd31_1.2.2.2.2.2.2.2.2.1 rfl rfl (by simp [Value.category]) (by decide) (by decide) (by decide) (by decide) (fun r1 S3 g2 pr1 qr1 hg2 => ?_)
  obtain ⟨rfl, rfl, z4, rfl, lz4, uz4⟩ := pr1
  refine X_st [.int (iI z4)] rfl ?_
  refine X_pop hK kd31_1.2.2.2.2.2.2.2.2.2.1 rfl ?_
  refine X_aloadn hK (i := 0) 0 kd31_1.2.2.2.2.2.2.2.2.2.2.1 rfl rfl ?_
  refine X_iloadn hK (i := 1) 1 kd31_1.2.2.2.2.2.2.2.2.2.2.2 rfl rfl ?_
  refine X_callV hK [.int (iI x1)] [] lk_Jx4a65c_123 (c_elementData_100 _ _ _ _ _ S g a0 x1 n0 hs_a0 (by omega) (by omega) en0 hp0 (by omega)) hs_a0 ⟨by decide, rfl⟩ kd31_2.1 rfl rfl (by simp [Value.category]) (by decide) (by decide) (by decide) (by decide) (fun r5 S7 g6 pr5 qr5 hg6 => ?_)
  obtain ⟨rfl, rfl, b8, rfl, hs_b8⟩ := pr5
  refine X_st [.ref b8] rfl ?_
  exact hret _ _ _ _ _ _ _ kd31_2.2.1 (Or.inr ⟨_, rfl⟩) ⟨rfl, rfl, b8, rfl, hs_b8⟩ (Nat.le_refl _) (Nat.le_refl _)

set_option maxHeartbeats 4000000 in
set_option maxRecDepth 100000 in
theorem c_size_200 (l : Launch) (D : va_G) (kA : Nat → ClassId) (b0 : Nat) (t0 : Nat → Nat) (S : xT) (g : xG) (a0 : Nat) (n0 : Int) (hs_a0 : S a0 = some (200, 0)) (hn0 : 0 ≤ n0 ∧ n0 ≤ 2147483647) (en0 : g a0 2 = .int (iI n0)) (hp0 : xLs S g) : xMt l yJx4a65c_size_8abf5 cJx4a65c_size_8abf5 1 (some .int) 0 0 0 0 D kA b0 t0 [] [.ref a0] S g (fun (r : Option Value) (S1 : xT) (g1 : xG) => S = S1 ∧ g = g1 ∧ ∃ z : Int, r = some (.int (iI z)) ∧ 0 ≤ z ∧ z ≤ 200 ∧ (z = n0)) := by
  refine xEnterI (by decide) (by simp [lg_sl, Value.category]) [(0, .ref a0)] rfl ?_
  intro K E hK hret _ _ _
  obtain ⟨b, n, z, eb, hb, hn, ez, q0, q1, q2, hel⟩ := (xLs_200 hp0).2 a0 0 hs_a0
  have hz : n0 = z := xinj en0 ez (by omega) (by omega)
  refine X_aloadn hK (i := 0) 0 kd31_2.2.2.1 rfl rfl ?_
  refine X_getK hK fl_Jx4a65c_48_200 hs_a0 en0 kd31_2.2.2.2.1 ?_
  exact hret _ _ _ _ _ _ _ kd31_2.2.2.2.2 ⟨rfl, rfl, n0, rfl, (by omega), (by omega), rfl⟩ (Nat.le_refl _) (Nat.le_refl _)

set_option maxHeartbeats 4000000 in
set_option maxRecDepth 100000 in
theorem c_elementData_200 (l : Launch) (D : va_G) (kA : Nat → ClassId) (b0 : Nat) (t0 : Nat → Nat) (S : xT) (g : xG) (a0 : Nat) (x1 : Int) (n0 : Int) (hs_a0 : S a0 = some (200, 0)) (hx1 : 0 ≤ x1 ∧ x1 ≤ 199) (hn0 : 0 ≤ n0 ∧ n0 ≤ 2147483647) (en0 : g a0 2 = .int (iI n0)) (hp0 : xLs S g) (hp1 : x1 < n0) : xMt l yJx4a65c_elementData_915e3 cJx4a65c_elementData_915e3 2 (some (.object "java/lang/Object")) 0 0 0 0 D kA b0 t0 [] [.ref a0, .int (iI x1)] S g (fun (r : Option Value) (S1 : xT) (g1 : xG) => S = S1 ∧ g = g1 ∧ ∃ z : Nat, r = some (.ref z) ∧ S z = some (2, 0)) := by
  refine xEnterA (Or.inl ⟨_, rfl⟩) (by decide) (by simp [lg_sl, Value.category]) [(0, .ref a0), (1, .int (iI x1))] rfl ?_
  intro K E hK hret _ _ _
  obtain ⟨b, n, z, eb, hb, hn, ez, q0, q1, q2, hel⟩ := (xLs_200 hp0).2 a0 0 hs_a0
  have hz : n0 = z := xinj en0 ez (by omega) (by omega)
  have hc := xcaps_le hn
  refine X_aloadn hK (i := 0) 0 kd31_1.1 rfl rfl ?_
  refine X_getK hK fl_Jx4a65c_9_200 hs_a0 eb kd31_1.2.1 ?_
  refine X_iloadn hK (i := 1) 1 kd31_1.2.2.1 rfl rfl ?_
  obtain ⟨e, w1, w2⟩ := hel x1.toNat (by omega)
  rcases hb with hb | hb
  · refine X_oaldv hK hb.1 ⟨by decide, by decide, by omega⟩ (by omega) (by omega) kd31_1.2.2.2.1 (fun _ => ?_)
    rw [w1]
    exact hret _ _ _ _ _ _ _ kd31_1.2.2.2.2.1 (Or.inr ⟨_, rfl⟩) ⟨rfl, rfl, e, rfl, w2⟩ (Nat.le_refl _) (Nat.le_refl _)
  · exact False.elim (by omega)

set_option maxHeartbeats 4000000 in
set_option maxRecDepth 100000 in
theorem c_get_200 (l : Launch) (D : va_G) (kA : Nat → ClassId) (b0 : Nat) (t0 : Nat → Nat) (S : xT) (g : xG) (a0 : Nat) (x1 : Int) (n0 : Int) (hs_a0 : S a0 = some (200, 0)) (hx1 : 0 ≤ x1 ∧ x1 ≤ 199) (hn0 : 0 ≤ n0 ∧ n0 ≤ 2147483647) (en0 : g a0 2 = .int (iI n0)) (hp0 : xLs S g) (hp1 : x1 < n0) : xMt l yJx4a65c_get_915e3 cJx4a65c_get_915e3 2 (some (.object "java/lang/Object")) 2 0 0 43 D kA b0 t0 [] [.ref a0, .int (iI x1)] S g (fun (r : Option Value) (S1 : xT) (g1 : xG) => S = S1 ∧ g = g1 ∧ ∃ z : Nat, r = some (.ref z) ∧ S z = some (2, 0)) := by
  refine xEnterA (Or.inl ⟨_, rfl⟩) (by decide) (by simp [lg_sl, Value.category]) [(0, .ref a0), (1, .int (iI x1))] rfl ?_
  intro K E hK hret _ _ _
  refine X_iloadn hK (i := 1) 1 kd31_1.2.2.2.2.2.1 rfl rfl ?_
  refine X_aloadn hK (i := 0) 0 kd31_1.2.2.2.2.2.2.1 rfl rfl ?_
  refine X_getK hK fl_Jx4a65c_48_200 hs_a0 en0 kd31_1.2.2.2.2.2.2.2.1 ?_
  refine X_callS hK [.int (iI x1), .int (iI n0)] [] lk_Jx4a65c_118 (c_J15_checkIndex_7cf53 _ _ _ _ _ S g x1 n0 (by omega) (by omega) (by omega)) kd31_1.2.2.2.2.2.2.2.2.1 rfl rfl (by simp [Value.category]) (by decide) (by decide) (by decide) (by decide) (fun r1 S3 g2 pr1 qr1 hg2 => ?_)
  obtain ⟨rfl, rfl, z4, rfl, lz4, uz4⟩ := pr1
  refine X_st [.int (iI z4)] rfl ?_
  refine X_pop hK kd31_1.2.2.2.2.2.2.2.2.2.1 rfl ?_
  refine X_aloadn hK (i := 0) 0 kd31_1.2.2.2.2.2.2.2.2.2.2.1 rfl rfl ?_
  refine X_iloadn hK (i := 1) 1 kd31_1.2.2.2.2.2.2.2.2.2.2.2 rfl rfl ?_
  refine X_callV hK [.int (iI x1)] [] lk_Jx4a65c_123 (c_elementData_200 _ _ _ _ _ S g a0 x1 n0 hs_a0 (by omega) (by omega) en0 hp0 (by omega)) hs_a0 ⟨by decide, rfl⟩ kd31_2.1 rfl rfl (by simp [Value.category]) (by decide) (by decide) (by decide) (by decide) (fun r5 S7 g6 pr5 qr5 hg6 => ?_)
  obtain ⟨rfl, rfl, b8, rfl, hs_b8⟩ := pr5
  refine X_st [.ref b8] rfl ?_
  exact hret _ _ _ _ _ _ _ kd31_2.2.1 (Or.inr ⟨_, rfl⟩) ⟨rfl, rfl, b8, rfl, hs_b8⟩ (Nat.le_refl _) (Nat.le_refl _)

set_option maxHeartbeats 4000000 in
set_option maxRecDepth 100000 in
theorem c_size_300 (l : Launch) (D : va_G) (kA : Nat → ClassId) (b0 : Nat) (t0 : Nat → Nat) (S : xT) (g : xG) (a0 : Nat) (n0 : Int) (hs_a0 : S a0 = some (300, 0)) (hn0 : 0 ≤ n0 ∧ n0 ≤ 2147483647) (en0 : g a0 2 = .int (iI n0)) (hp0 : xLs S g) : xMt l yJx4a65c_size_8abf5 cJx4a65c_size_8abf5 1 (some .int) 0 0 0 0 D kA b0 t0 [] [.ref a0] S g (fun (r : Option Value) (S1 : xT) (g1 : xG) => S = S1 ∧ g = g1 ∧ ∃ z : Int, r = some (.int (iI z)) ∧ 0 ≤ z ∧ z ≤ 10 ∧ (z = n0)) := by
  refine xEnterI (by decide) (by simp [lg_sl, Value.category]) [(0, .ref a0)] rfl ?_
  intro K E hK hret _ _ _
  obtain ⟨b, n, z, eb, hb, hn, ez, q0, q1, q2, hel⟩ := (xLs_300 hp0).2 a0 0 hs_a0
  have hz : n0 = z := xinj en0 ez (by omega) (by omega)
  refine X_aloadn hK (i := 0) 0 kd31_2.2.2.1 rfl rfl ?_
  refine X_getK hK fl_Jx4a65c_48_300 hs_a0 en0 kd31_2.2.2.2.1 ?_
  exact hret _ _ _ _ _ _ _ kd31_2.2.2.2.2 ⟨rfl, rfl, n0, rfl, (by omega), (by omega), rfl⟩ (Nat.le_refl _) (Nat.le_refl _)

set_option maxHeartbeats 4000000 in
set_option maxRecDepth 100000 in
theorem c_elementData_300 (l : Launch) (D : va_G) (kA : Nat → ClassId) (b0 : Nat) (t0 : Nat → Nat) (S : xT) (g : xG) (a0 : Nat) (x1 : Int) (n0 : Int) (hs_a0 : S a0 = some (300, 0)) (hx1 : 0 ≤ x1 ∧ x1 ≤ 9) (hn0 : 0 ≤ n0 ∧ n0 ≤ 2147483647) (en0 : g a0 2 = .int (iI n0)) (hp0 : xLs S g) (hp1 : x1 < n0) : xMt l yJx4a65c_elementData_915e3 cJx4a65c_elementData_915e3 2 (some (.object "java/lang/Object")) 0 0 0 0 D kA b0 t0 [] [.ref a0, .int (iI x1)] S g (fun (r : Option Value) (S1 : xT) (g1 : xG) => S = S1 ∧ g = g1 ∧ ∃ z : Nat, r = some (.ref z) ∧ S z = some (11, 0)) := by
  refine xEnterA (Or.inl ⟨_, rfl⟩) (by decide) (by simp [lg_sl, Value.category]) [(0, .ref a0), (1, .int (iI x1))] rfl ?_
  intro K E hK hret _ _ _
  obtain ⟨b, n, z, eb, hb, hn, ez, q0, q1, q2, hel⟩ := (xLs_300 hp0).2 a0 0 hs_a0
  have hz : n0 = z := xinj en0 ez (by omega) (by omega)
  have hc := xcaps_le hn
  refine X_aloadn hK (i := 0) 0 kd31_1.1 rfl rfl ?_
  refine X_getK hK fl_Jx4a65c_9_300 hs_a0 eb kd31_1.2.1 ?_
  refine X_iloadn hK (i := 1) 1 kd31_1.2.2.1 rfl rfl ?_
  obtain ⟨e, w1, w2⟩ := hel x1.toNat (by omega)
  rcases hb with hb | hb
  · refine X_oaldv hK hb.1 ⟨by decide, by decide, by omega⟩ (by omega) (by omega) kd31_1.2.2.2.1 (fun _ => ?_)
    rw [w1]
    exact hret _ _ _ _ _ _ _ kd31_1.2.2.2.2.1 (Or.inr ⟨_, rfl⟩) ⟨rfl, rfl, e, rfl, w2⟩ (Nat.le_refl _) (Nat.le_refl _)
  · exact False.elim (by omega)

set_option maxHeartbeats 4000000 in
set_option maxRecDepth 100000 in
theorem c_get_300 (l : Launch) (D : va_G) (kA : Nat → ClassId) (b0 : Nat) (t0 : Nat → Nat) (S : xT) (g : xG) (a0 : Nat) (x1 : Int) (n0 : Int) (hs_a0 : S a0 = some (300, 0)) (hx1 : 0 ≤ x1 ∧ x1 ≤ 9) (hn0 : 0 ≤ n0 ∧ n0 ≤ 2147483647) (en0 : g a0 2 = .int (iI n0)) (hp0 : xLs S g) (hp1 : x1 < n0) : xMt l yJx4a65c_get_915e3 cJx4a65c_get_915e3 2 (some (.object "java/lang/Object")) 2 0 0 43 D kA b0 t0 [] [.ref a0, .int (iI x1)] S g (fun (r : Option Value) (S1 : xT) (g1 : xG) => S = S1 ∧ g = g1 ∧ ∃ z : Nat, r = some (.ref z) ∧ S z = some (11, 0)) := by
  refine xEnterA (Or.inl ⟨_, rfl⟩) (by decide) (by simp [lg_sl, Value.category]) [(0, .ref a0), (1, .int (iI x1))] rfl ?_
  intro K E hK hret _ _ _
  refine X_iloadn hK (i := 1) 1 kd31_1.2.2.2.2.2.1 rfl rfl ?_
  refine X_aloadn hK (i := 0) 0 kd31_1.2.2.2.2.2.2.1 rfl rfl ?_
  refine X_getK hK fl_Jx4a65c_48_300 hs_a0 en0 kd31_1.2.2.2.2.2.2.2.1 ?_
  refine X_callS hK [.int (iI x1), .int (iI n0)] [] lk_Jx4a65c_118 (c_J15_checkIndex_7cf53 _ _ _ _ _ S g x1 n0 (by omega) (by omega) (by omega)) kd31_1.2.2.2.2.2.2.2.2.1 rfl rfl (by simp [Value.category]) (by decide) (by decide) (by decide) (by decide) (fun r1 S3 g2 pr1 qr1 hg2 => ?_)
  obtain ⟨rfl, rfl, z4, rfl, lz4, uz4⟩ := pr1
  refine X_st [.int (iI z4)] rfl ?_
  refine X_pop hK kd31_1.2.2.2.2.2.2.2.2.2.1 rfl ?_
  refine X_aloadn hK (i := 0) 0 kd31_1.2.2.2.2.2.2.2.2.2.2.1 rfl rfl ?_
  refine X_iloadn hK (i := 1) 1 kd31_1.2.2.2.2.2.2.2.2.2.2.2 rfl rfl ?_
  refine X_callV hK [.int (iI x1)] [] lk_Jx4a65c_123 (c_elementData_300 _ _ _ _ _ S g a0 x1 n0 hs_a0 (by omega) (by omega) en0 hp0 (by omega)) hs_a0 ⟨by decide, rfl⟩ kd31_2.1 rfl rfl (by simp [Value.category]) (by decide) (by decide) (by decide) (by decide) (fun r5 S7 g6 pr5 qr5 hg6 => ?_)
  obtain ⟨rfl, rfl, b8, rfl, hs_b8⟩ := pr5
  refine X_st [.ref b8] rfl ?_
  exact hret _ _ _ _ _ _ _ kd31_2.2.1 (Or.inr ⟨_, rfl⟩) ⟨rfl, rfl, b8, rfl, hs_b8⟩ (Nat.le_refl _) (Nat.le_refl _)
