
set_option maxHeartbeats 4000000 in
set_option maxRecDepth 100000 in
theorem c3_isKey (l : Launch) (D : va_G) (kA : Nat → ClassId) (b0 : Nat) (t0 : Nat → Nat) (S : xT) (g : xG) (a0 : Nat) (y1 : Int64) (kd : Int) (wd : Int64) (hs_a0 : S a0 = some (13, 0)) (hkd : 0 ≤ kd ∧ kd ≤ 4) (ekd : g a0 22 = .int (iI kd)) (hp0 : g a0 28 = .long wd) : xMt l yX12_isKey cX12_isKey 3 (some .boolean) 0 0 0 0 D kA b0 t0 [] [.ref a0, .long y1] S g (fun (r : Option Value) (S1 : xT) (g1 : xG) => S = S1 ∧ g = g1 ∧ ∃ z : Int, r = some (.int (iI z)) ∧ 0 ≤ z ∧ z ≤ 1 ∧ ((z = 1 ↔ kd = 2 ∧ wd = y1))) := by
  refine xEnterZ (by decide) (by simp [lg_sl, Value.category]) [(0, .ref a0), (1, .long y1)] rfl ?_
  intro K E hK hret _ _ _
  refine X_aloadn hK (i := 0) 0 kd28_101.2.2.2.2.2.2.2.2.1 rfl rfl ?_
  refine X_getK hK fl_X12_262_13 hs_a0 ekd kd28_101.2.2.2.2.2.2.2.2.2.1 ?_
  refine X_iconst hK kd28_101.2.2.2.2.2.2.2.2.2.2.1 ?_
  refine X_icmp_ne hK 21 (by omega) (by omega) kd28_101.2.2.2.2.2.2.2.2.2.2.2 (by decide) (fun c1 => ?_) (fun c1 => ?_)
  · refine X_iconst hK kd28_102.2.2.2.2.2.2.2.1 ?_
    exact hret _ _ _ _ _ _ _ kd28_102.2.2.2.2.2.2.2.2.1 (by omega) (by omega) ⟨rfl, rfl, 0, rfl, (by omega), (by omega), ⟨fun h9 => by omega, fun h9 => by omega⟩⟩ (Nat.le_refl _) (Nat.le_refl _)
  · refine X_aloadn hK (i := 0) 0 kd28_102.1 rfl rfl ?_
    refine X_getK hK fl_X12_277_13 hs_a0 hp0 kd28_102.2.1 ?_
    refine X_lloadn hK (i := 1) 1 kd28_102.2.2.1 rfl rfl ?_
    refine X_lcmpE hK kd28_102.2.2.2.1 (fun z2 lz2 uz2 ez2 fz2 => ?_)
    refine X_if_ne hK 21 (by omega) kd28_102.2.2.2.2.1 (by decide) (fun c3 => ?_) (fun c3 => ?_)
    · refine X_iconst hK kd28_102.2.2.2.2.2.2.2.1 ?_
      exact hret _ _ _ _ _ _ _ kd28_102.2.2.2.2.2.2.2.2.1 (by omega) (by omega) ⟨rfl, rfl, 0, rfl, (by omega), (by omega), ⟨fun h9 => by omega, fun h9 => by have h8 := ez2.mpr h9.2; omega⟩⟩ (Nat.le_refl _) (Nat.le_refl _)
    · refine X_iconst hK kd28_102.2.2.2.2.2.1 ?_
      refine X_goto hK 22 kd28_102.2.2.2.2.2.2.1 (by decide) ?_
      exact hret _ _ _ _ _ _ _ kd28_102.2.2.2.2.2.2.2.2.1 (by omega) (by omega) ⟨rfl, rfl, 1, rfl, (by omega), (by omega), ⟨fun _ => ⟨by omega, ez2.mp (by omega)⟩, fun _ => rfl⟩⟩ (Nat.le_refl _) (Nat.le_refl _)

set_option maxHeartbeats 4000000 in
set_option maxRecDepth 100000 in
theorem c3_spelt (l : Launch) (D : va_G) (kA : Nat → ClassId) (b0 : Nat) (t0 : Nat → Nat) (S : xT) (g : xG) (x0 : Int) (x1 : Int) (x2 : Int) (x3 : Int) (x4 : Int) (hx0 : 0 ≤ x0 ∧ x0 ≤ 122) (hx1 : 0 ≤ x1 ∧ x1 ≤ 122) (hx2 : 0 ≤ x2 ∧ x2 ≤ 122) (hx3 : 0 ≤ x3 ∧ x3 ≤ 122) (hx4 : 0 ≤ x4 ∧ x4 ≤ 122) : xMt l yX12_spelt cX12_spelt 7 (some .long) 0 0 0 0 D kA b0 t0 [] [.int (iI x0), .int (iI x1), .int (iI x2), .int (iI x3), .int (iI x4)] S g (fun (r : Option Value) (S1 : xT) (g1 : xG) => S = S1 ∧ g = g1 ∧ ∃ z : Int64, r = some (.long z) ∧ (z = iL (xspl x0 x1 x2 x3 x4))) := by
  refine xEnterL (by decide) (by simp [lg_sl, Value.category]) [(0, .int (iI x0)), (1, .int (iI x1)), (2, .int (iI x2)), (3, .int (iI x3)), (4, .int (iI x4))] rfl ?_
  intro K E hK hret _ _ _
  refine X_ldc2E hK (a := 27) (by decide +kernel) kd20_18.2.2.2.1 m_29_6 ?_
  refine X_iloadn hK (i := 0) 0 kd20_18.2.2.2.2.1 rfl rfl ?_
  refine X_i2lE hK (by omega) kd20_18.2.2.2.2.2.1 ?_
  refine X_ldc2E hK (a := 96) (by decide +kernel) kd20_18.2.2.2.2.2.2.1 m_29_7 ?_
  refine X_lsubE hK kd20_18.2.2.2.2.2.2.2.1 ?_
  refine X_lmulE hK kd20_18.2.2.2.2.2.2.2.2.1 ?_
  refine X_iloadn hK (i := 1) 1 kd20_18.2.2.2.2.2.2.2.2.2.1 rfl rfl ?_
  refine X_i2lE hK (by omega) kd20_18.2.2.2.2.2.2.2.2.2.2.1 ?_
  refine X_laddE hK kd20_18.2.2.2.2.2.2.2.2.2.2.2 ?_
  refine X_ldc2E hK (a := 96) (by decide +kernel) kd20_19.1 m_29_7 ?_
  refine X_lsubE hK kd20_19.2.1 ?_
  refine X_lstore hK (i := 5) [(5, .long ((((iL 27) * ((iL x0) - (iL 96))) + (iL x1)) - (iL 96))), (0, .int (iI x0)), (1, .int (iI x1)), (2, .int (iI x2)), (3, .int (iI x3)), (4, .int (iI x4))] kd20_19.2.2.1 (by decide) rfl ?_
  refine X_iloadn hK (i := 2) 3 kd20_19.2.2.2.1 rfl rfl ?_
  refine X_if_le hK 38 (by omega) kd20_19.2.2.2.2.1 (by decide) (fun c1 => ?_) (fun c1 => ?_)
  · refine X_iloadn hK (i := 3) 4 kd20_20.2.2.1 rfl rfl ?_
    refine X_if_le hK 57 (by omega) kd20_20.2.2.2.1 (by decide) (fun c2 => ?_) (fun c2 => ?_)
    · refine X_iload hK (i := 4) 5 kd20_21.2.1 rfl ?_
      refine X_if_le hK 79 (by omega) kd20_21.2.2.1 (by decide) (fun c3 => ?_) (fun c3 => ?_)
      · refine X_lload hK (i := 5) 0 kd20_22.1 rfl ?_
        exact hret _ _ _ _ _ _ _ kd20_22.2.1 ⟨rfl, rfl, ((((iL 27) * ((iL x0) - (iL 96))) + (iL x1)) - (iL 96)), rfl, (by simp only [iL_mul, iL_add, iL_sub]; unfold xspl; rw [xsp1.n (c := x2) (by omega), xsp1.n (c := x3) (by omega), xsp1.n (c := x4) (by omega)])⟩ (Nat.le_refl _) (Nat.le_refl _)
      · refine X_ldc2E hK (a := 27) (by decide +kernel) kd20_21.2.2.2.1 m_29_6 ?_
        refine X_lload hK (i := 5) 0 kd20_21.2.2.2.2.1 rfl ?_
        refine X_lmulE hK kd20_21.2.2.2.2.2.1 ?_
        refine X_iload hK (i := 4) 5 kd20_21.2.2.2.2.2.2.1 rfl ?_
        refine X_i2lE hK (by omega) kd20_21.2.2.2.2.2.2.2.1 ?_
        refine X_laddE hK kd20_21.2.2.2.2.2.2.2.2.1 ?_
        refine X_ldc2E hK (a := 96) (by decide +kernel) kd20_21.2.2.2.2.2.2.2.2.2.1 m_29_7 ?_
        refine X_lsubE hK kd20_21.2.2.2.2.2.2.2.2.2.2.1 ?_
        refine X_goto hK 81 kd20_21.2.2.2.2.2.2.2.2.2.2.2 (by decide) ?_
        exact hret _ _ _ _ _ _ _ kd20_22.2.1 ⟨rfl, rfl, ((((iL 27) * ((((iL 27) * ((iL x0) - (iL 96))) + (iL x1)) - (iL 96))) + (iL x4)) - (iL 96)), rfl, (by simp only [iL_mul, iL_add, iL_sub]; unfold xspl; rw [xsp1.n (c := x2) (by omega), xsp1.n (c := x3) (by omega), xsp1.p (c := x4) (by omega)])⟩ (Nat.le_refl _) (Nat.le_refl _)
    · refine X_ldc2E hK (a := 27) (by decide +kernel) kd20_20.2.2.2.2.1 m_29_6 ?_
      refine X_lload hK (i := 5) 0 kd20_20.2.2.2.2.2.1 rfl ?_
      refine X_lmulE hK kd20_20.2.2.2.2.2.2.1 ?_
      refine X_iloadn hK (i := 3) 4 kd20_20.2.2.2.2.2.2.2.1 rfl rfl ?_
      refine X_i2lE hK (by omega) kd20_20.2.2.2.2.2.2.2.2.1 ?_
      refine X_laddE hK kd20_20.2.2.2.2.2.2.2.2.2.1 ?_
      refine X_ldc2E hK (a := 96) (by decide +kernel) kd20_20.2.2.2.2.2.2.2.2.2.2.1 m_29_7 ?_
      refine X_lsubE hK kd20_20.2.2.2.2.2.2.2.2.2.2.2 ?_
      refine X_lstore hK (i := 5) [(5, .long ((((iL 27) * ((((iL 27) * ((iL x0) - (iL 96))) + (iL x1)) - (iL 96))) + (iL x3)) - (iL 96))), (0, .int (iI x0)), (1, .int (iI x1)), (2, .int (iI x2)), (3, .int (iI x3)), (4, .int (iI x4))] kd20_21.1 (by decide) rfl ?_
      refine X_iload hK (i := 4) 5 kd20_21.2.1 rfl ?_
      refine X_if_le hK 79 (by omega) kd20_21.2.2.1 (by decide) (fun c4 => ?_) (fun c4 => ?_)
      · refine X_lload hK (i := 5) 0 kd20_22.1 rfl ?_
        exact hret _ _ _ _ _ _ _ kd20_22.2.1 ⟨rfl, rfl, ((((iL 27) * ((((iL 27) * ((iL x0) - (iL 96))) + (iL x1)) - (iL 96))) + (iL x3)) - (iL 96)), rfl, (by simp only [iL_mul, iL_add, iL_sub]; unfold xspl; rw [xsp1.n (c := x2) (by omega), xsp1.p (c := x3) (by omega), xsp1.n (c := x4) (by omega)])⟩ (Nat.le_refl _) (Nat.le_refl _)
      · refine X_ldc2E hK (a := 27) (by decide +kernel) kd20_21.2.2.2.1 m_29_6 ?_
        refine X_lload hK (i := 5) 0 kd20_21.2.2.2.2.1 rfl ?_
        refine X_lmulE hK kd20_21.2.2.2.2.2.1 ?_
        refine X_iload hK (i := 4) 5 kd20_21.2.2.2.2.2.2.1 rfl ?_
        refine X_i2lE hK (by omega) kd20_21.2.2.2.2.2.2.2.1 ?_
        refine X_laddE hK kd20_21.2.2.2.2.2.2.2.2.1 ?_
        refine X_ldc2E hK (a := 96) (by decide +kernel) kd20_21.2.2.2.2.2.2.2.2.2.1 m_29_7 ?_
        refine X_lsubE hK kd20_21.2.2.2.2.2.2.2.2.2.2.1 ?_
        refine X_goto hK 81 kd20_21.2.2.2.2.2.2.2.2.2.2.2 (by decide) ?_
        exact hret _ _ _ _ _ _ _ kd20_22.2.1 ⟨rfl, rfl, ((((iL 27) * ((((iL 27) * ((((iL 27) * ((iL x0) - (iL 96))) + (iL x1)) - (iL 96))) + (iL x3)) - (iL 96))) + (iL x4)) - (iL 96)), rfl, (by simp only [iL_mul, iL_add, iL_sub]; unfold xspl; rw [xsp1.n (c := x2) (by omega), xsp1.p (c := x3) (by omega), xsp1.p (c := x4) (by omega)])⟩ (Nat.le_refl _) (Nat.le_refl _)
  · refine X_ldc2E hK (a := 27) (by decide +kernel) kd20_19.2.2.2.2.2.1 m_29_6 ?_
    refine X_lload hK (i := 5) 0 kd20_19.2.2.2.2.2.2.1 rfl ?_
    refine X_lmulE hK kd20_19.2.2.2.2.2.2.2.1 ?_
    refine X_iloadn hK (i := 2) 3 kd20_19.2.2.2.2.2.2.2.2.1 rfl rfl ?_
    refine X_i2lE hK (by omega) kd20_19.2.2.2.2.2.2.2.2.2.1 ?_
    refine X_laddE hK kd20_19.2.2.2.2.2.2.2.2.2.2.1 ?_
    refine X_ldc2E hK (a := 96) (by decide +kernel) kd20_19.2.2.2.2.2.2.2.2.2.2.2 m_29_7 ?_
    refine X_lsubE hK kd20_20.1 ?_
    refine X_lstore hK (i := 5) [(5, .long ((((iL 27) * ((((iL 27) * ((iL x0) - (iL 96))) + (iL x1)) - (iL 96))) + (iL x2)) - (iL 96))), (0, .int (iI x0)), (1, .int (iI x1)), (2, .int (iI x2)), (3, .int (iI x3)), (4, .int (iI x4))] kd20_20.2.1 (by decide) rfl ?_
    refine X_iloadn hK (i := 3) 4 kd20_20.2.2.1 rfl rfl ?_
    refine X_if_le hK 57 (by omega) kd20_20.2.2.2.1 (by decide) (fun c5 => ?_) (fun c5 => ?_)
    · refine X_iload hK (i := 4) 5 kd20_21.2.1 rfl ?_
      refine X_if_le hK 79 (by omega) kd20_21.2.2.1 (by decide) (fun c6 => ?_) (fun c6 => ?_)
      · refine X_lload hK (i := 5) 0 kd20_22.1 rfl ?_
        exact hret _ _ _ _ _ _ _ kd20_22.2.1 ⟨rfl, rfl, ((((iL 27) * ((((iL 27) * ((iL x0) - (iL 96))) + (iL x1)) - (iL 96))) + (iL x2)) - (iL 96)), rfl, (by simp only [iL_mul, iL_add, iL_sub]; unfold xspl; rw [xsp1.p (c := x2) (by omega), xsp1.n (c := x3) (by omega), xsp1.n (c := x4) (by omega)])⟩ (Nat.le_refl _) (Nat.le_refl _)
      · refine X_ldc2E hK (a := 27) (by decide +kernel) kd20_21.2.2.2.1 m_29_6 ?_
        refine X_lload hK (i := 5) 0 kd20_21.2.2.2.2.1 rfl ?_
        refine X_lmulE hK kd20_21.2.2.2.2.2.1 ?_
        refine X_iload hK (i := 4) 5 kd20_21.2.2.2.2.2.2.1 rfl ?_
        refine X_i2lE hK (by omega) kd20_21.2.2.2.2.2.2.2.1 ?_
        refine X_laddE hK kd20_21.2.2.2.2.2.2.2.2.1 ?_
        refine X_ldc2E hK (a := 96) (by decide +kernel) kd20_21.2.2.2.2.2.2.2.2.2.1 m_29_7 ?_
        refine X_lsubE hK kd20_21.2.2.2.2.2.2.2.2.2.2.1 ?_
        refine X_goto hK 81 kd20_21.2.2.2.2.2.2.2.2.2.2.2 (by decide) ?_
        exact hret _ _ _ _ _ _ _ kd20_22.2.1 ⟨rfl, rfl, ((((iL 27) * ((((iL 27) * ((((iL 27) * ((iL x0) - (iL 96))) + (iL x1)) - (iL 96))) + (iL x2)) - (iL 96))) + (iL x4)) - (iL 96)), rfl, (by simp only [iL_mul, iL_add, iL_sub]; unfold xspl; rw [xsp1.p (c := x2) (by omega), xsp1.n (c := x3) (by omega), xsp1.p (c := x4) (by omega)])⟩ (Nat.le_refl _) (Nat.le_refl _)
    · refine X_ldc2E hK (a := 27) (by decide +kernel) kd20_20.2.2.2.2.1 m_29_6 ?_
      refine X_lload hK (i := 5) 0 kd20_20.2.2.2.2.2.1 rfl ?_
      refine X_lmulE hK kd20_20.2.2.2.2.2.2.1 ?_
      refine X_iloadn hK (i := 3) 4 kd20_20.2.2.2.2.2.2.2.1 rfl rfl ?_
      refine X_i2lE hK (by omega) kd20_20.2.2.2.2.2.2.2.2.1 ?_
      refine X_laddE hK kd20_20.2.2.2.2.2.2.2.2.2.1 ?_
      refine X_ldc2E hK (a := 96) (by decide +kernel) kd20_20.2.2.2.2.2.2.2.2.2.2.1 m_29_7 ?_
      refine X_lsubE hK kd20_20.2.2.2.2.2.2.2.2.2.2.2 ?_
      refine X_lstore hK (i := 5) [(5, .long ((((iL 27) * ((((iL 27) * ((((iL 27) * ((iL x0) - (iL 96))) + (iL x1)) - (iL 96))) + (iL x2)) - (iL 96))) + (iL x3)) - (iL 96))), (0, .int (iI x0)), (1, .int (iI x1)), (2, .int (iI x2)), (3, .int (iI x3)), (4, .int (iI x4))] kd20_21.1 (by decide) rfl ?_
      refine X_iload hK (i := 4) 5 kd20_21.2.1 rfl ?_
      refine X_if_le hK 79 (by omega) kd20_21.2.2.1 (by decide) (fun c7 => ?_) (fun c7 => ?_)
      · refine X_lload hK (i := 5) 0 kd20_22.1 rfl ?_
        exact hret _ _ _ _ _ _ _ kd20_22.2.1 ⟨rfl, rfl, ((((iL 27) * ((((iL 27) * ((((iL 27) * ((iL x0) - (iL 96))) + (iL x1)) - (iL 96))) + (iL x2)) - (iL 96))) + (iL x3)) - (iL 96)), rfl, (by simp only [iL_mul, iL_add, iL_sub]; unfold xspl; rw [xsp1.p (c := x2) (by omega), xsp1.p (c := x3) (by omega), xsp1.n (c := x4) (by omega)])⟩ (Nat.le_refl _) (Nat.le_refl _)
      · refine X_ldc2E hK (a := 27) (by decide +kernel) kd20_21.2.2.2.1 m_29_6 ?_
        refine X_lload hK (i := 5) 0 kd20_21.2.2.2.2.1 rfl ?_
        refine X_lmulE hK kd20_21.2.2.2.2.2.1 ?_
        refine X_iload hK (i := 4) 5 kd20_21.2.2.2.2.2.2.1 rfl ?_
        refine X_i2lE hK (by omega) kd20_21.2.2.2.2.2.2.2.1 ?_
        refine X_laddE hK kd20_21.2.2.2.2.2.2.2.2.1 ?_
        refine X_ldc2E hK (a := 96) (by decide +kernel) kd20_21.2.2.2.2.2.2.2.2.2.1 m_29_7 ?_
        refine X_lsubE hK kd20_21.2.2.2.2.2.2.2.2.2.2.1 ?_
        refine X_goto hK 81 kd20_21.2.2.2.2.2.2.2.2.2.2.2 (by decide) ?_
        exact hret _ _ _ _ _ _ _ kd20_22.2.1 ⟨rfl, rfl, ((((iL 27) * ((((iL 27) * ((((iL 27) * ((((iL 27) * ((iL x0) - (iL 96))) + (iL x1)) - (iL 96))) + (iL x2)) - (iL 96))) + (iL x3)) - (iL 96))) + (iL x4)) - (iL 96)), rfl, (by simp only [iL_mul, iL_add, iL_sub]; unfold xspl; rw [xsp1.p (c := x2) (by omega), xsp1.p (c := x3) (by omega), xsp1.p (c := x4) (by omega)])⟩ (Nat.le_refl _) (Nat.le_refl _)

set_option maxHeartbeats 4000000 in
set_option maxRecDepth 100000 in
theorem c3_isSign (l : Launch) (D : va_G) (kA : Nat → ClassId) (b0 : Nat) (t0 : Nat → Nat) (S : xT) (g : xG) (a0 : Nat) (x1 : Int) (kd : Int) (sg : Int) (hs_a0 : S a0 = some (13, 0)) (hx1 : (-2147483648) ≤ x1 ∧ x1 ≤ 2147483647) (hkd : 0 ≤ kd ∧ kd ≤ 4) (ekd : g a0 22 = .int (iI kd)) (hsg : (-2147483648) ≤ sg ∧ sg ≤ 2147483647) (esg : g a0 24 = .int (iI sg)) : xMt l yX12_isSign cX12_isSign 2 (some .boolean) 0 0 0 0 D kA b0 t0 [] [.ref a0, .int (iI x1)] S g (fun (r : Option Value) (S1 : xT) (g1 : xG) => S = S1 ∧ g = g1 ∧ ∃ z : Int, r = some (.int (iI z)) ∧ 0 ≤ z ∧ z ≤ 1 ∧ ((z = 1 ↔ kd = 4 ∧ sg = x1))) := by
  refine xEnterZ (by decide) (by simp [lg_sl, Value.category]) [(0, .ref a0), (1, .int (iI x1))] rfl ?_
  intro K E hK hret _ _ _
  refine X_aloadn hK (i := 0) 0 kd28_103.2.2.2.2.2.2.1 rfl rfl ?_
  refine X_getK hK fl_X12_262_13 hs_a0 ekd kd28_103.2.2.2.2.2.2.2.1 ?_
  refine X_iconst hK kd28_103.2.2.2.2.2.2.2.2.1 ?_
  refine X_icmp_ne hK 20 (by omega) (by omega) kd28_103.2.2.2.2.2.2.2.2.2.1 (by decide) (fun c1 => ?_) (fun c1 => ?_)
  · refine X_iconst hK kd28_104.2.2.2.2.1 ?_
    exact hret _ _ _ _ _ _ _ kd28_104.2.2.2.2.2.1 (by omega) (by omega) ⟨rfl, rfl, 0, rfl, (by omega), (by omega), (by omega)⟩ (Nat.le_refl _) (Nat.le_refl _)
  · refine X_aloadn hK (i := 0) 0 kd28_103.2.2.2.2.2.2.2.2.2.2.1 rfl rfl ?_
    refine X_getK hK fl_X12_274_13 hs_a0 esg kd28_103.2.2.2.2.2.2.2.2.2.2.2 ?_
    refine X_iloadn hK (i := 1) 1 kd28_104.1 rfl rfl ?_
    refine X_icmp_ne hK 20 (by omega) (by omega) kd28_104.2.1 (by decide) (fun c2 => ?_) (fun c2 => ?_)
    · refine X_iconst hK kd28_104.2.2.2.2.1 ?_
      exact hret _ _ _ _ _ _ _ kd28_104.2.2.2.2.2.1 (by omega) (by omega) ⟨rfl, rfl, 0, rfl, (by omega), (by omega), (by omega)⟩ (Nat.le_refl _) (Nat.le_refl _)
    · refine X_iconst hK kd28_104.2.2.1 ?_
      refine X_goto hK 21 kd28_104.2.2.2.1 (by decide) ?_
      exact hret _ _ _ _ _ _ _ kd28_104.2.2.2.2.2.1 (by omega) (by omega) ⟨rfl, rfl, 1, rfl, (by omega), (by omega), (by omega)⟩ (Nat.le_refl _) (Nat.le_refl _)

set_option maxHeartbeats 4000000 in
set_option maxRecDepth 100000 in
theorem c3_bad (l : Launch) (D : va_G) (kA : Nat → ClassId) (b0 : Nat) (t0 : Nat → Nat) (S : xT) (g : xG) (a0 : Nat) (x1 : Int) (kd : Int) (fr : Int) (hs_a0 : S a0 = some (13, 0)) (hx1 : 1 ≤ x1 ∧ x1 ≤ 4) (hkd : 0 ≤ kd ∧ kd ≤ 4) (ekd : g a0 22 = .int (iI kd)) (hfr : 0 ≤ fr ∧ fr ≤ 420) (efr : g a0 21 = .int (iI fr)) : xMt l yX12_bad cX12_bad 2 (some .boolean) 0 0 0 0 D kA b0 t0 [(13, 25), (13, 26)] [.ref a0, .int (iI x1)] S g (fun (r : Option Value) (S1 : xT) (g1 : xG) => S = S1 ∧ ∃ z : Int, r = some (.int (iI z)) ∧ 0 ≤ z ∧ z ≤ 1 ∧ (z = 0) ∧ (g1 a0 25 = .int (iI (if kd = 1 then 1 else x1))) ∧ (g1 a0 26 = .int (iI (fr)))) := by
  refine xEnterZ (by decide) (by simp [lg_sl, Value.category]) [(0, .ref a0), (1, .int (iI x1))] rfl ?_
  intro K E hK hret _ _ _
  refine X_aloadn hK (i := 0) 0 kd28_24.2.2.2.2.2.2.2.2.2.2.2 rfl rfl ?_
  refine X_aloadn hK (i := 0) 0 kd28_25.1 rfl rfl ?_
  refine X_getK hK fl_X12_262_13 hs_a0 ekd kd28_25.2.1 ?_
  refine X_iconst hK kd28_25.2.2.1 ?_
  refine X_icmp_ne hK 13 (by omega) (by omega) kd28_25.2.2.2.1 (by decide) (fun c1 => ?_) (fun c1 => ?_)
  · refine X_iloadn hK (i := 1) 1 kd28_25.2.2.2.2.2.2.1 rfl rfl ?_
    refine X_puti hK fl_X12_291_13 hs_a0 (by decide) sl_13_25 (by omega) (by omega) kd28_25.2.2.2.2.2.2.2.1 (fun g2 hg2 => ?_)
    refine X_aloadn hK (i := 0) 0 kd28_25.2.2.2.2.2.2.2.2.1 rfl rfl ?_
    refine X_aloadn hK (i := 0) 0 kd28_25.2.2.2.2.2.2.2.2.2.1 rfl rfl ?_
    refine X_getK hK fl_X12_259_13 hs_a0 ((xs_k hg2 (by decide)).trans efr) kd28_25.2.2.2.2.2.2.2.2.2.2.1 ?_
    refine X_puti hK fl_X12_294_13 hs_a0 (by decide) sl_13_26 (by omega) (by omega) kd28_25.2.2.2.2.2.2.2.2.2.2.2 (fun g3 hg3 => ?_)
    refine X_iconst hK kd28_26.1 ?_
    exact hret _ _ _ _ _ _ _ kd28_26.2.1 (by omega) (by omega) ⟨rfl, 0, rfl, (by omega), (by omega), (by omega), (((xs_k hg3 (by decide)).trans (xs_s hg2)).trans (by congr 2 <;> omega)), ((xs_s hg3).trans (by congr 2 <;> omega))⟩ (Nat.le_refl _) (Nat.le_refl _)
  · refine X_iconst hK kd28_25.2.2.2.2.1 ?_
    refine X_goto hK 14 kd28_25.2.2.2.2.2.1 (by decide) ?_
    refine X_puti hK fl_X12_291_13 hs_a0 (by decide) sl_13_25 (by omega) (by omega) kd28_25.2.2.2.2.2.2.2.1 (fun g4 hg4 => ?_)
    refine X_aloadn hK (i := 0) 0 kd28_25.2.2.2.2.2.2.2.2.1 rfl rfl ?_
    refine X_aloadn hK (i := 0) 0 kd28_25.2.2.2.2.2.2.2.2.2.1 rfl rfl ?_
    refine X_getK hK fl_X12_259_13 hs_a0 ((xs_k hg4 (by decide)).trans efr) kd28_25.2.2.2.2.2.2.2.2.2.2.1 ?_
    refine X_puti hK fl_X12_294_13 hs_a0 (by decide) sl_13_26 (by omega) (by omega) kd28_25.2.2.2.2.2.2.2.2.2.2.2 (fun g5 hg5 => ?_)
    refine X_iconst hK kd28_26.1 ?_
    exact hret _ _ _ _ _ _ _ kd28_26.2.1 (by omega) (by omega) ⟨rfl, 0, rfl, (by omega), (by omega), (by omega), (((xs_k hg5 (by decide)).trans (xs_s hg4)).trans (by congr 2 <;> omega)), ((xs_s hg5).trans (by congr 2 <;> omega))⟩ (Nat.le_refl _) (Nat.le_refl _)

set_option maxHeartbeats 4000000 in
set_option maxRecDepth 100000 in
theorem c3_sortAtHand (l : Launch) (D : va_G) (kA : Nat → ClassId) (b0 : Nat) (t0 : Nat → Nat) (S : xT) (g : xG) (a0 : Nat) (sz : Int) (to : Int) (fr : Int) (kd : Int) (nm : Int) (sg : Int) (y0 : Nat) (f9 : Int → Int) (wd : Int64) (a9 : Int) (hs_a0 : S a0 = some (13, 0)) (hsz : 0 ≤ sz ∧ sz ≤ 420) (esz : g a0 19 = .int (iI sz)) (hto : 0 ≤ to ∧ to ≤ 420) (eto : g a0 20 = .int (iI to)) (hfr : 0 ≤ fr ∧ fr ≤ 420) (efr : g a0 21 = .int (iI fr)) (hkd : 0 ≤ kd ∧ kd ≤ 4) (ekd : g a0 22 = .int (iI kd)) (hnm : (-2147483648) ≤ nm ∧ nm ≤ 2147483647) (enm : g a0 23 = .int (iI nm)) (hsg : (-2147483648) ≤ sg ∧ sg ≤ 2147483647) (esg : g a0 24 = .int (iI sg)) (ey0 : g a0 1 = .ref y0) (hs_y0 : S y0 = some (14100, 420)) (hp0 : xv g y0 = f9) (hp1 : g a0 28 = .long wd) (hp2 : xHd f9 sz a9 kd nm wd sg fr to) (hp3 : to ≤ sz) : xMt l yX12_sortAtHand cX12_sortAtHand 1 (some .int) 1 0 0 26 D kA b0 t0 [] [.ref a0] S g (fun (r : Option Value) (S1 : xT) (g1 : xG) => S = S1 ∧ g = g1 ∧ ∃ z : Int, r = some (.int (iI z)) ∧ (-1) ≤ z ∧ z ≤ 5 ∧ ((0 ≤ (xtk f9 sz a9) ∧ (xtk f9 sz a9) < 6 ∧ z = (xtk f9 sz a9)) ∨ (6 ≤ (xtk f9 sz a9) ∧ z = -1))) := by
  refine xEnterI (by decide) (by simp [lg_sl, Value.category]) [(0, .ref a0)] rfl ?_
  intro K E hK hret _ _ _
  refine X_aloadn hK (i := 0) 0 kd28_125.2.2.2.2.2.2.2.1 rfl rfl ?_
  refine X_bipush hK kd28_125.2.2.2.2.2.2.2.2.1 (by decide) ?_
  refine X_bipush hK kd28_125.2.2.2.2.2.2.2.2.2.1 (by decide) ?_
  refine X_bipush hK kd28_125.2.2.2.2.2.2.2.2.2.2.1 (by decide) ?_
  refine X_bipush hK kd28_125.2.2.2.2.2.2.2.2.2.2.2 (by decide) ?_
  refine X_bipush hK kd28_126.1 (by decide) ?_
  refine X_callS hK [.int (iI 112), .int (iI 114), .int (iI 105), .int (iI 99), .int (iI 101)] [.ref a0] lk_X12_297 (c3_spelt _ _ _ _ _ S g 112 114 105 99 101 (by omega) (by omega) (by omega) (by omega) (by omega)) kd28_126.2.1 rfl rfl (by simp [Value.category]) (by decide) (by decide) (by decide) (by decide) (fun r1 S3 g2 pr1 qr1 hg2 => ?_)
  obtain ⟨rfl, rfl, y4, rfl, k5⟩ := pr1
  refine X_st [.long y4, .ref a0] rfl ?_
  refine X_callV hK [.long y4] [] lk_X12_301 (c3_isKey _ _ _ _ _ S g a0 y4 kd wd hs_a0 (by omega) ekd hp1) hs_a0 ⟨by decide, rfl⟩ kd28_126.2.2.1 rfl rfl (by simp [Value.category]) (by decide) (by decide) (by decide) (by decide) (fun r6 S8 g7 pr6 qr6 hg7 => ?_)
  obtain ⟨rfl, rfl, z9, rfl, lz9, uz9, k10⟩ := pr6
  refine X_st [.int (iI z9)] rfl ?_
  have hq11 : z9 = 1 ↔ xtk f9 sz a9 = 0 := by rw [k10, k5, show iL (xspl 112 114 105 99 101) = iL (xvl 0) from by decide +kernel]; exact xHd.key hp2 (by omega)
  refine X_if_eq hK 22 (by omega) kd28_126.2.2.2.1 (by decide) (fun c12 => ?_) (fun c12 => ?_)
  · refine X_aloadn hK (i := 0) 0 kd28_126.2.2.2.2.2.2.1 rfl rfl ?_
    refine X_bipush hK kd28_126.2.2.2.2.2.2.2.1 (by decide) ?_
    refine X_bipush hK kd28_126.2.2.2.2.2.2.2.2.1 (by decide) ?_
    refine X_bipush hK kd28_126.2.2.2.2.2.2.2.2.2.1 (by decide) ?_
    refine X_iconst hK kd28_126.2.2.2.2.2.2.2.2.2.2.1 ?_
    refine X_iconst hK kd28_126.2.2.2.2.2.2.2.2.2.2.2 ?_
    refine X_callS hK [.int (iI 99), .int (iI 114), .int (iI 121), .int (iI 0), .int (iI 0)] [.ref a0] lk_X12_297 (c3_spelt _ _ _ _ _ S g 99 114 121 0 0 (by omega) (by omega) (by omega) (by omega) (by omega)) kd28_127.1 rfl rfl (by simp [Value.category]) (by decide) (by decide) (by decide) (by decide) (fun r13 S15 g14 pr13 qr13 hg14 => ?_)
    obtain ⟨rfl, rfl, y16, rfl, k17⟩ := pr13
    refine X_st [.long y16, .ref a0] rfl ?_
    refine X_callV hK [.long y16] [] lk_X12_301 (c3_isKey _ _ _ _ _ S g a0 y16 kd wd hs_a0 (by omega) ekd hp1) hs_a0 ⟨by decide, rfl⟩ kd28_127.2.1 rfl rfl (by simp [Value.category]) (by decide) (by decide) (by decide) (by decide) (fun r18 S20 g19 pr18 qr18 hg19 => ?_)
    obtain ⟨rfl, rfl, z21, rfl, lz21, uz21, k22⟩ := pr18
    refine X_st [.int (iI z21)] rfl ?_
    have hq23 : z21 = 1 ↔ xtk f9 sz a9 = 1 := by rw [k22, k17, show iL (xspl 99 114 121 0 0) = iL (xvl 1) from by decide +kernel]; exact xHd.key hp2 (by omega)
    refine X_if_eq hK 42 (by omega) kd28_127.2.2.1 (by decide) (fun c24 => ?_) (fun c24 => ?_)
    · refine X_aloadn hK (i := 0) 0 kd28_127.2.2.2.2.2.1 rfl rfl ?_
      refine X_bipush hK kd28_127.2.2.2.2.2.2.1 (by decide) ?_
      refine X_bipush hK kd28_127.2.2.2.2.2.2.2.1 (by decide) ?_
      refine X_bipush hK kd28_127.2.2.2.2.2.2.2.2.1 (by decide) ?_
      refine X_bipush hK kd28_127.2.2.2.2.2.2.2.2.2.1 (by decide) ?_
      refine X_iconst hK kd28_127.2.2.2.2.2.2.2.2.2.2.1 ?_
      refine X_callS hK [.int (iI 98), .int (iI 97), .int (iI 99), .int (iI 107), .int (iI 0)] [.ref a0] lk_X12_297 (c3_spelt _ _ _ _ _ S g 98 97 99 107 0 (by omega) (by omega) (by omega) (by omega) (by omega)) kd28_127.2.2.2.2.2.2.2.2.2.2.2 rfl rfl (by simp [Value.category]) (by decide) (by decide) (by decide) (by decide) (fun r25 S27 g26 pr25 qr25 hg26 => ?_)
      obtain ⟨rfl, rfl, y28, rfl, k29⟩ := pr25
      refine X_st [.long y28, .ref a0] rfl ?_
      refine X_callV hK [.long y28] [] lk_X12_301 (c3_isKey _ _ _ _ _ S g a0 y28 kd wd hs_a0 (by omega) ekd hp1) hs_a0 ⟨by decide, rfl⟩ kd28_128.1 rfl rfl (by simp [Value.category]) (by decide) (by decide) (by decide) (by decide) (fun r30 S32 g31 pr30 qr30 hg31 => ?_)
      obtain ⟨rfl, rfl, z33, rfl, lz33, uz33, k34⟩ := pr30
      refine X_st [.int (iI z33)] rfl ?_
      have hq35 : z33 = 1 ↔ xtk f9 sz a9 = 2 := by rw [k34, k29, show iL (xspl 98 97 99 107 0) = iL (xvl 2) from by decide +kernel]; exact xHd.key hp2 (by omega)
      refine X_if_eq hK 63 (by omega) kd28_128.2.1 (by decide) (fun c36 => ?_) (fun c36 => ?_)
      · refine X_aloadn hK (i := 0) 0 kd28_128.2.2.2.2.1 rfl rfl ?_
        refine X_bipush hK kd28_128.2.2.2.2.2.1 (by decide) ?_
        refine X_bipush hK kd28_128.2.2.2.2.2.2.1 (by decide) ?_
        refine X_bipush hK kd28_128.2.2.2.2.2.2.2.1 (by decide) ?_
        refine X_bipush hK kd28_128.2.2.2.2.2.2.2.2.1 (by decide) ?_
        refine X_iconst hK kd28_128.2.2.2.2.2.2.2.2.2.1 ?_
        refine X_callS hK [.int (iI 109), .int (iI 111), .int (iI 115), .int (iI 116), .int (iI 0)] [.ref a0] lk_X12_297 (c3_spelt _ _ _ _ _ S g 109 111 115 116 0 (by omega) (by omega) (by omega) (by omega) (by omega)) kd28_128.2.2.2.2.2.2.2.2.2.2.1 rfl rfl (by simp [Value.category]) (by decide) (by decide) (by decide) (by decide) (fun r37 S39 g38 pr37 qr37 hg38 => ?_)
        obtain ⟨rfl, rfl, y40, rfl, k41⟩ := pr37
        refine X_st [.long y40, .ref a0] rfl ?_
        refine X_callV hK [.long y40] [] lk_X12_301 (c3_isKey _ _ _ _ _ S g a0 y40 kd wd hs_a0 (by omega) ekd hp1) hs_a0 ⟨by decide, rfl⟩ kd28_128.2.2.2.2.2.2.2.2.2.2.2 rfl rfl (by simp [Value.category]) (by decide) (by decide) (by decide) (by decide) (fun r42 S44 g43 pr42 qr42 hg43 => ?_)
        obtain ⟨rfl, rfl, z45, rfl, lz45, uz45, k46⟩ := pr42
        refine X_st [.int (iI z45)] rfl ?_
        have hq47 : z45 = 1 ↔ xtk f9 sz a9 = 3 := by rw [k46, k41, show iL (xspl 109 111 115 116 0) = iL (xvl 3) from by decide +kernel]; exact xHd.key hp2 (by omega)
        refine X_if_eq hK 84 (by omega) kd28_129.1 (by decide) (fun c48 => ?_) (fun c48 => ?_)
        · refine X_aloadn hK (i := 0) 0 kd28_129.2.2.2.1 rfl rfl ?_
          refine X_bipush hK kd28_129.2.2.2.2.1 (by decide) ?_
          refine X_bipush hK kd28_129.2.2.2.2.2.1 (by decide) ?_
          refine X_bipush hK kd28_129.2.2.2.2.2.2.1 (by decide) ?_
          refine X_bipush hK kd28_129.2.2.2.2.2.2.2.1 (by decide) ?_
          refine X_iconst hK kd28_129.2.2.2.2.2.2.2.2.1 ?_
          refine X_callS hK [.int (iI 115), .int (iI 101), .int (iI 108), .int (iI 108), .int (iI 0)] [.ref a0] lk_X12_297 (c3_spelt _ _ _ _ _ S g 115 101 108 108 0 (by omega) (by omega) (by omega) (by omega) (by omega)) kd28_129.2.2.2.2.2.2.2.2.2.1 rfl rfl (by simp [Value.category]) (by decide) (by decide) (by decide) (by decide) (fun r49 S51 g50 pr49 qr49 hg50 => ?_)
          obtain ⟨rfl, rfl, y52, rfl, k53⟩ := pr49
          refine X_st [.long y52, .ref a0] rfl ?_
          refine X_callV hK [.long y52] [] lk_X12_301 (c3_isKey _ _ _ _ _ S g a0 y52 kd wd hs_a0 (by omega) ekd hp1) hs_a0 ⟨by decide, rfl⟩ kd28_129.2.2.2.2.2.2.2.2.2.2.1 rfl rfl (by simp [Value.category]) (by decide) (by decide) (by decide) (by decide) (fun r54 S56 g55 pr54 qr54 hg55 => ?_)
          obtain ⟨rfl, rfl, z57, rfl, lz57, uz57, k58⟩ := pr54
          refine X_st [.int (iI z57)] rfl ?_
          have hq59 : z57 = 1 ↔ xtk f9 sz a9 = 4 := by rw [k58, k53, show iL (xspl 115 101 108 108 0) = iL (xvl 4) from by decide +kernel]; exact xHd.key hp2 (by omega)
          refine X_if_eq hK 105 (by omega) kd28_129.2.2.2.2.2.2.2.2.2.2.2 (by decide) (fun c60 => ?_) (fun c60 => ?_)
          · refine X_aloadn hK (i := 0) 0 kd28_130.2.2.1 rfl rfl ?_
            refine X_bipush hK kd28_130.2.2.2.1 (by decide) ?_
            refine X_bipush hK kd28_130.2.2.2.2.1 (by decide) ?_
            refine X_bipush hK kd28_130.2.2.2.2.2.1 (by decide) ?_
            refine X_iconst hK kd28_130.2.2.2.2.2.2.1 ?_
            refine X_iconst hK kd28_130.2.2.2.2.2.2.2.1 ?_
            refine X_callS hK [.int (iI 111), .int (iI 119), .int (iI 101), .int (iI 0), .int (iI 0)] [.ref a0] lk_X12_297 (c3_spelt _ _ _ _ _ S g 111 119 101 0 0 (by omega) (by omega) (by omega) (by omega) (by omega)) kd28_130.2.2.2.2.2.2.2.2.1 rfl rfl (by simp [Value.category]) (by decide) (by decide) (by decide) (by decide) (fun r61 S63 g62 pr61 qr61 hg62 => ?_)
            obtain ⟨rfl, rfl, y64, rfl, k65⟩ := pr61
            refine X_st [.long y64, .ref a0] rfl ?_
            refine X_callV hK [.long y64] [] lk_X12_301 (c3_isKey _ _ _ _ _ S g a0 y64 kd wd hs_a0 (by omega) ekd hp1) hs_a0 ⟨by decide, rfl⟩ kd28_130.2.2.2.2.2.2.2.2.2.1 rfl rfl (by simp [Value.category]) (by decide) (by decide) (by decide) (by decide) (fun r66 S68 g67 pr66 qr66 hg67 => ?_)
            obtain ⟨rfl, rfl, z69, rfl, lz69, uz69, k70⟩ := pr66
            refine X_st [.int (iI z69)] rfl ?_
            have hq71 : z69 = 1 ↔ xtk f9 sz a9 = 5 := by rw [k70, k65, show iL (xspl 111 119 101 0 0) = iL (xvl 5) from by decide +kernel]; exact xHd.key hp2 (by omega)
            refine X_if_eq hK 127 (by omega) kd28_130.2.2.2.2.2.2.2.2.2.2.1 (by decide) (fun c72 => ?_) (fun c72 => ?_)
            · refine X_iconst hK kd28_131.2.1 ?_
              exact hret _ _ _ _ _ _ _ kd28_131.2.2.1 ⟨rfl, rfl, (-1), rfl, (by omega), (by omega), (Or.inr ⟨xsrn (xHd.nn hp2) (fun q9 => by have h9 := hq11.mpr q9; omega) (fun q9 => by have h9 := hq23.mpr q9; omega) (fun q9 => by have h9 := hq35.mpr q9; omega) (fun q9 => by have h9 := hq47.mpr q9; omega) (fun q9 => by have h9 := hq59.mpr q9; omega) (fun q9 => by have h9 := hq71.mpr q9; omega), rfl⟩)⟩ (Nat.le_refl _) (Nat.le_refl _)
            · refine X_iconst hK kd28_130.2.2.2.2.2.2.2.2.2.2.2 ?_
              refine X_goto hK 128 kd28_131.1 (by decide) ?_
              exact hret _ _ _ _ _ _ _ kd28_131.2.2.1 ⟨rfl, rfl, 5, rfl, (by omega), (by omega), (xsrp (hq71.mp (by omega)) (by decide) (by decide))⟩ (Nat.le_refl _) (Nat.le_refl _)
          · refine X_iconst hK kd28_130.1 ?_
            exact hret _ _ _ _ _ _ _ kd28_130.2.1 ⟨rfl, rfl, 4, rfl, (by omega), (by omega), (xsrp (hq59.mp (by omega)) (by decide) (by decide))⟩ (Nat.le_refl _) (Nat.le_refl _)
        · refine X_iconst hK kd28_129.2.1 ?_
          exact hret _ _ _ _ _ _ _ kd28_129.2.2.1 ⟨rfl, rfl, 3, rfl, (by omega), (by omega), (xsrp (hq47.mp (by omega)) (by decide) (by decide))⟩ (Nat.le_refl _) (Nat.le_refl _)
      · refine X_iconst hK kd28_128.2.2.1 ?_
        exact hret _ _ _ _ _ _ _ kd28_128.2.2.2.1 ⟨rfl, rfl, 2, rfl, (by omega), (by omega), (xsrp (hq35.mp (by omega)) (by decide) (by decide))⟩ (Nat.le_refl _) (Nat.le_refl _)
    · refine X_iconst hK kd28_127.2.2.2.1 ?_
      exact hret _ _ _ _ _ _ _ kd28_127.2.2.2.2.1 ⟨rfl, rfl, 1, rfl, (by omega), (by omega), (xsrp (hq23.mp (by omega)) (by decide) (by decide))⟩ (Nat.le_refl _) (Nat.le_refl _)
  · refine X_iconst hK kd28_126.2.2.2.2.1 ?_
    exact hret _ _ _ _ _ _ _ kd28_126.2.2.2.2.2.1 ⟨rfl, rfl, 0, rfl, (by omega), (by omega), (xsrp (hq11.mp (by omega)) (by decide) (by decide))⟩ (Nat.le_refl _) (Nat.le_refl _)

set_option maxHeartbeats 4000000 in
set_option maxRecDepth 100000 in
theorem c3_isNot (l : Launch) (D : va_G) (kA : Nat → ClassId) (b0 : Nat) (t0 : Nat → Nat) (S : xT) (g : xG) (a0 : Nat) (sz : Int) (to : Int) (fr : Int) (kd : Int) (nm : Int) (sg : Int) (y0 : Nat) (f9 : Int → Int) (wd : Int64) (a9 : Int) (hs_a0 : S a0 = some (13, 0)) (hsz : 0 ≤ sz ∧ sz ≤ 420) (esz : g a0 19 = .int (iI sz)) (hto : 0 ≤ to ∧ to ≤ 420) (eto : g a0 20 = .int (iI to)) (hfr : 0 ≤ fr ∧ fr ≤ 420) (efr : g a0 21 = .int (iI fr)) (hkd : 0 ≤ kd ∧ kd ≤ 4) (ekd : g a0 22 = .int (iI kd)) (hnm : (-2147483648) ≤ nm ∧ nm ≤ 2147483647) (enm : g a0 23 = .int (iI nm)) (hsg : (-2147483648) ≤ sg ∧ sg ≤ 2147483647) (esg : g a0 24 = .int (iI sg)) (ey0 : g a0 1 = .ref y0) (hs_y0 : S y0 = some (14100, 420)) (hp0 : xv g y0 = f9) (hp1 : g a0 28 = .long wd) (hp2 : xHd f9 sz a9 kd nm wd sg fr to) (hp3 : to ≤ sz) : xMt l yX12_isNot cX12_isNot 1 (some .boolean) 1 0 0 26 D kA b0 t0 [] [.ref a0] S g (fun (r : Option Value) (S1 : xT) (g1 : xG) => S = S1 ∧ g = g1 ∧ ∃ z : Int, r = some (.int (iI z)) ∧ 0 ≤ z ∧ z ≤ 1 ∧ ((z = 1 ↔ (xtk f9 sz a9) = 7))) := by
  refine xEnterZ (by decide) (by simp [lg_sl, Value.category]) [(0, .ref a0)] rfl ?_
  intro K E hK hret _ _ _
  refine X_aloadn hK (i := 0) 0 kd28_102.2.2.2.2.2.2.2.2.2.1 rfl rfl ?_
  refine X_bipush hK kd28_102.2.2.2.2.2.2.2.2.2.2.1 (by decide) ?_
  refine X_bipush hK kd28_102.2.2.2.2.2.2.2.2.2.2.2 (by decide) ?_
  refine X_bipush hK kd28_103.1 (by decide) ?_
  refine X_iconst hK kd28_103.2.1 ?_
  refine X_iconst hK kd28_103.2.2.1 ?_
  refine X_callS hK [.int (iI 110), .int (iI 111), .int (iI 116), .int (iI 0), .int (iI 0)] [.ref a0] lk_X12_297 (c3_spelt _ _ _ _ _ S g 110 111 116 0 0 (by omega) (by omega) (by omega) (by omega) (by omega)) kd28_103.2.2.2.1 rfl rfl (by simp [Value.category]) (by decide) (by decide) (by decide) (by decide) (fun r1 S3 g2 pr1 qr1 hg2 => ?_)
  obtain ⟨rfl, rfl, y4, rfl, k5⟩ := pr1
  refine X_st [.long y4, .ref a0] rfl ?_
  refine X_callV hK [.long y4] [] lk_X12_301 (c3_isKey _ _ _ _ _ S g a0 y4 kd wd hs_a0 (by omega) ekd hp1) hs_a0 ⟨by decide, rfl⟩ kd28_103.2.2.2.2.1 rfl rfl (by simp [Value.category]) (by decide) (by decide) (by decide) (by decide) (fun r6 S8 g7 pr6 qr6 hg7 => ?_)
  obtain ⟨rfl, rfl, z9, rfl, lz9, uz9, k10⟩ := pr6
  refine X_st [.int (iI z9)] rfl ?_
  have hq11 : z9 = 1 ↔ xtk f9 sz a9 = 7 := by rw [k10, k5, show iL (xspl 110 111 116 0 0) = iL (xvl 7) from by decide +kernel]; exact xHd.key hp2 (by omega)
  exact hret _ _ _ _ _ _ _ kd28_103.2.2.2.2.2.1 (by omega) (by omega) ⟨rfl, rfl, z9, rfl, (by omega), (by omega), (by omega)⟩ (Nat.le_refl _) (Nat.le_refl _)

set_option maxHeartbeats 4000000 in
set_option maxRecDepth 100000 in
theorem c3_atom (l : Launch) (D : va_G) (kA : Nat → ClassId) (b0 : Nat) (t0 : Nat → Nat) (S : xT) (g : xG) (a0 : Nat) (sz : Int) (to : Int) (fr : Int) (kd : Int) (nm : Int) (sg : Int) (y0 : Nat) (f9 : Int → Int) (wd : Int64) (a9 : Int) (hs_a0 : S a0 = some (13, 0)) (hsz : 0 ≤ sz ∧ sz ≤ 420) (esz : g a0 19 = .int (iI sz)) (hto : 0 ≤ to ∧ to ≤ 420) (eto : g a0 20 = .int (iI to)) (hfr : 0 ≤ fr ∧ fr ≤ 420) (efr : g a0 21 = .int (iI fr)) (hkd : 0 ≤ kd ∧ kd ≤ 4) (ekd : g a0 22 = .int (iI kd)) (hnm : (-2147483648) ≤ nm ∧ nm ≤ 2147483647) (enm : g a0 23 = .int (iI nm)) (hsg : (-2147483648) ≤ sg ∧ sg ≤ 2147483647) (esg : g a0 24 = .int (iI sg)) (ey0 : g a0 1 = .ref y0) (hs_y0 : S y0 = some (14100, 420)) (hp0 : xv g y0 = f9) (hp1 : g a0 28 = .long wd) (hp2 : xHd f9 sz a9 kd nm wd sg fr to) (hp3 : to ≤ sz) : xMt l yX12_atom cX12_atom 1 (some .int) 1 0 0 26 D kA b0 t0 [] [.ref a0] S g (fun (r : Option Value) (S1 : xT) (g1 : xG) => S = S1 ∧ g = g1 ∧ ∃ z : Int, r = some (.int (iI z)) ∧ (-1) ≤ z ∧ z ≤ 11 ∧ ((10 ≤ (xtk f9 sz a9) ∧ (xtk f9 sz a9) ≤ 21 ∧ z = (xtk f9 sz a9) - 10) ∨ (¬ (10 ≤ (xtk f9 sz a9) ∧ (xtk f9 sz a9) ≤ 21) ∧ z = -1))) := by
  refine xEnterI (by decide) (by simp [lg_sl, Value.category]) [(0, .ref a0)] rfl ?_
  intro K E hK hret _ _ _
  refine X_aloadn hK (i := 0) 0 kd28_12.2.1 rfl rfl ?_
  refine X_ldc2E hK (a := 27) (by decide +kernel) kd28_12.2.2.1 m_29_6 ?_
  refine X_bipush hK kd28_12.2.2.2.1 (by decide) ?_
  refine X_bipush hK kd28_12.2.2.2.2.1 (by decide) ?_
  refine X_bipush hK kd28_12.2.2.2.2.2.1 (by decide) ?_
  refine X_bipush hK kd28_12.2.2.2.2.2.2.1 (by decide) ?_
  refine X_bipush hK kd28_12.2.2.2.2.2.2.2.1 (by decide) ?_
  refine X_callS hK [.int (iI 115), .int (iI 99), .int (iI 104), .int (iI 111), .int (iI 111)] [.long (iL 27), .ref a0] lk_X12_297 (c3_spelt _ _ _ _ _ S g 115 99 104 111 111 (by omega) (by omega) (by omega) (by omega) (by omega)) kd28_12.2.2.2.2.2.2.2.2.1 rfl rfl (by simp [Value.category]) (by decide) (by decide) (by decide) (by decide) (fun r1 S3 g2 pr1 qr1 hg2 => ?_)
  obtain ⟨rfl, rfl, y4, rfl, k5⟩ := pr1
  refine X_st [.long y4, .long (iL 27), .ref a0] rfl ?_
  refine X_lmulE hK kd28_12.2.2.2.2.2.2.2.2.2.1 ?_
  refine X_ldc2E hK (a := 12) (by decide +kernel) kd28_12.2.2.2.2.2.2.2.2.2.2.1 m_31_9 ?_
  refine X_laddE hK kd28_12.2.2.2.2.2.2.2.2.2.2.2 ?_
  refine X_callV hK [.long (((iL 27) * y4) + (iL 12))] [] lk_X12_301 (c3_isKey _ _ _ _ _ S g a0 (((iL 27) * y4) + (iL 12)) kd wd hs_a0 (by omega) ekd hp1) hs_a0 ⟨by decide, rfl⟩ kd28_13.1 rfl rfl (by simp [Value.category]) (by decide) (by decide) (by decide) (by decide) (fun r6 S8 g7 pr6 qr6 hg7 => ?_)
  obtain ⟨rfl, rfl, z9, rfl, lz9, uz9, k10⟩ := pr6
  refine X_st [.int (iI z9)] rfl ?_
  have hq11 : z9 = 1 ↔ xtk f9 sz a9 = 10 := by rw [k10, k5, show (((iL 27) * (iL (xspl 115 99 104 111 111))) + (iL 12)) = iL (xvl 10) from by decide +kernel]; exact xHd.key hp2 (by omega)
  refine X_if_eq hK 30 (by omega) kd28_13.2.1 (by decide) (fun c12 => ?_) (fun c12 => ?_)
  · refine X_aloadn hK (i := 0) 0 kd28_13.2.2.2.2.1 rfl rfl ?_
    refine X_bipush hK kd28_13.2.2.2.2.2.1 (by decide) ?_
    refine X_bipush hK kd28_13.2.2.2.2.2.2.1 (by decide) ?_
    refine X_bipush hK kd28_13.2.2.2.2.2.2.2.1 (by decide) ?_
    refine X_bipush hK kd28_13.2.2.2.2.2.2.2.2.1 (by decide) ?_
    refine X_bipush hK kd28_13.2.2.2.2.2.2.2.2.2.1 (by decide) ?_
    refine X_callS hK [.int (iI 98), .int (iI 97), .int (iI 100), .int (iI 103), .int (iI 101)] [.ref a0] lk_X12_297 (c3_spelt _ _ _ _ _ S g 98 97 100 103 101 (by omega) (by omega) (by omega) (by omega) (by omega)) kd28_13.2.2.2.2.2.2.2.2.2.2.1 rfl rfl (by simp [Value.category]) (by decide) (by decide) (by decide) (by decide) (fun r13 S15 g14 pr13 qr13 hg14 => ?_)
    obtain ⟨rfl, rfl, y16, rfl, k17⟩ := pr13
    refine X_st [.long y16, .ref a0] rfl ?_
    refine X_callV hK [.long y16] [] lk_X12_301 (c3_isKey _ _ _ _ _ S g a0 y16 kd wd hs_a0 (by omega) ekd hp1) hs_a0 ⟨by decide, rfl⟩ kd28_13.2.2.2.2.2.2.2.2.2.2.2 rfl rfl (by simp [Value.category]) (by decide) (by decide) (by decide) (by decide) (fun r18 S20 g19 pr18 qr18 hg19 => ?_)
    obtain ⟨rfl, rfl, z21, rfl, lz21, uz21, k22⟩ := pr18
    refine X_st [.int (iI z21)] rfl ?_
    have hq23 : z21 = 1 ↔ xtk f9 sz a9 = 11 := by rw [k22, k17, show iL (xspl 98 97 100 103 101) = iL (xvl 11) from by decide +kernel]; exact xHd.key hp2 (by omega)
    refine X_if_eq hK 52 (by omega) kd28_14.1 (by decide) (fun c24 => ?_) (fun c24 => ?_)
    · refine X_aloadn hK (i := 0) 0 kd28_14.2.2.2.1 rfl rfl ?_
      refine X_bipush hK kd28_14.2.2.2.2.1 (by decide) ?_
      refine X_bipush hK kd28_14.2.2.2.2.2.1 (by decide) ?_
      refine X_bipush hK kd28_14.2.2.2.2.2.2.1 (by decide) ?_
      refine X_bipush hK kd28_14.2.2.2.2.2.2.2.1 (by decide) ?_
      refine X_bipush hK kd28_14.2.2.2.2.2.2.2.2.1 (by decide) ?_
      refine X_callS hK [.int (iI 111), .int (iI 119), .int (iI 110), .int (iI 101), .int (iI 114)] [.ref a0] lk_X12_297 (c3_spelt _ _ _ _ _ S g 111 119 110 101 114 (by omega) (by omega) (by omega) (by omega) (by omega)) kd28_14.2.2.2.2.2.2.2.2.2.1 rfl rfl (by simp [Value.category]) (by decide) (by decide) (by decide) (by decide) (fun r25 S27 g26 pr25 qr25 hg26 => ?_)
      obtain ⟨rfl, rfl, y28, rfl, k29⟩ := pr25
      refine X_st [.long y28, .ref a0] rfl ?_
      refine X_callV hK [.long y28] [] lk_X12_301 (c3_isKey _ _ _ _ _ S g a0 y28 kd wd hs_a0 (by omega) ekd hp1) hs_a0 ⟨by decide, rfl⟩ kd28_14.2.2.2.2.2.2.2.2.2.2.1 rfl rfl (by simp [Value.category]) (by decide) (by decide) (by decide) (by decide) (fun r30 S32 g31 pr30 qr30 hg31 => ?_)
      obtain ⟨rfl, rfl, z33, rfl, lz33, uz33, k34⟩ := pr30
      refine X_st [.int (iI z33)] rfl ?_
      have hq35 : z33 = 1 ↔ xtk f9 sz a9 = 12 := by rw [k34, k29, show iL (xspl 111 119 110 101 114) = iL (xvl 12) from by decide +kernel]; exact xHd.key hp2 (by omega)
      refine X_if_eq hK 74 (by omega) kd28_14.2.2.2.2.2.2.2.2.2.2.2 (by decide) (fun c36 => ?_) (fun c36 => ?_)
      · refine X_aloadn hK (i := 0) 0 kd28_15.2.2.1 rfl rfl ?_
        refine X_bipush hK kd28_15.2.2.2.1 (by decide) ?_
        refine X_bipush hK kd28_15.2.2.2.2.1 (by decide) ?_
        refine X_bipush hK kd28_15.2.2.2.2.2.1 (by decide) ?_
        refine X_iconst hK kd28_15.2.2.2.2.2.2.1 ?_
        refine X_iconst hK kd28_15.2.2.2.2.2.2.2.1 ?_
        refine X_callS hK [.int (iI 97), .int (iI 103), .int (iI 101), .int (iI 0), .int (iI 0)] [.ref a0] lk_X12_297 (c3_spelt _ _ _ _ _ S g 97 103 101 0 0 (by omega) (by omega) (by omega) (by omega) (by omega)) kd28_15.2.2.2.2.2.2.2.2.1 rfl rfl (by simp [Value.category]) (by decide) (by decide) (by decide) (by decide) (fun r37 S39 g38 pr37 qr37 hg38 => ?_)
        obtain ⟨rfl, rfl, y40, rfl, k41⟩ := pr37
        refine X_st [.long y40, .ref a0] rfl ?_
        refine X_callV hK [.long y40] [] lk_X12_301 (c3_isKey _ _ _ _ _ S g a0 y40 kd wd hs_a0 (by omega) ekd hp1) hs_a0 ⟨by decide, rfl⟩ kd28_15.2.2.2.2.2.2.2.2.2.1 rfl rfl (by simp [Value.category]) (by decide) (by decide) (by decide) (by decide) (fun r42 S44 g43 pr42 qr42 hg43 => ?_)
        obtain ⟨rfl, rfl, z45, rfl, lz45, uz45, k46⟩ := pr42
        refine X_st [.int (iI z45)] rfl ?_
        have hq47 : z45 = 1 ↔ xtk f9 sz a9 = 13 := by rw [k46, k41, show iL (xspl 97 103 101 0 0) = iL (xvl 13) from by decide +kernel]; exact xHd.key hp2 (by omega)
        refine X_if_eq hK 94 (by omega) kd28_15.2.2.2.2.2.2.2.2.2.2.1 (by decide) (fun c48 => ?_) (fun c48 => ?_)
        · refine X_aloadn hK (i := 0) 0 kd28_16.2.1 rfl rfl ?_
          refine X_bipush hK kd28_16.2.2.1 (by decide) ?_
          refine X_bipush hK kd28_16.2.2.2.1 (by decide) ?_
          refine X_bipush hK kd28_16.2.2.2.2.1 (by decide) ?_
          refine X_bipush hK kd28_16.2.2.2.2.2.1 (by decide) ?_
          refine X_iconst hK kd28_16.2.2.2.2.2.2.1 ?_
          refine X_callS hK [.int (iI 104), .int (iI 111), .int (iI 117), .int (iI 114), .int (iI 0)] [.ref a0] lk_X12_297 (c3_spelt _ _ _ _ _ S g 104 111 117 114 0 (by omega) (by omega) (by omega) (by omega) (by omega)) kd28_16.2.2.2.2.2.2.2.1 rfl rfl (by simp [Value.category]) (by decide) (by decide) (by decide) (by decide) (fun r49 S51 g50 pr49 qr49 hg50 => ?_)
          obtain ⟨rfl, rfl, y52, rfl, k53⟩ := pr49
          refine X_st [.long y52, .ref a0] rfl ?_
          refine X_callV hK [.long y52] [] lk_X12_301 (c3_isKey _ _ _ _ _ S g a0 y52 kd wd hs_a0 (by omega) ekd hp1) hs_a0 ⟨by decide, rfl⟩ kd28_16.2.2.2.2.2.2.2.2.1 rfl rfl (by simp [Value.category]) (by decide) (by decide) (by decide) (by decide) (fun r54 S56 g55 pr54 qr54 hg55 => ?_)
          obtain ⟨rfl, rfl, z57, rfl, lz57, uz57, k58⟩ := pr54
          refine X_st [.int (iI z57)] rfl ?_
          have hq59 : z57 = 1 ↔ xtk f9 sz a9 = 14 := by rw [k58, k53, show iL (xspl 104 111 117 114 0) = iL (xvl 14) from by decide +kernel]; exact xHd.key hp2 (by omega)
          refine X_if_eq hK 115 (by omega) kd28_16.2.2.2.2.2.2.2.2.2.1 (by decide) (fun c60 => ?_) (fun c60 => ?_)
          · refine X_aloadn hK (i := 0) 0 kd28_17.1 rfl rfl ?_
            refine X_bipush hK kd28_17.2.1 (by decide) ?_
            refine X_bipush hK kd28_17.2.2.1 (by decide) ?_
            refine X_bipush hK kd28_17.2.2.2.1 (by decide) ?_
            refine X_bipush hK kd28_17.2.2.2.2.1 (by decide) ?_
            refine X_iconst hK kd28_17.2.2.2.2.2.1 ?_
            refine X_callS hK [.int (iI 119), .int (iI 101), .int (iI 101), .int (iI 107), .int (iI 0)] [.ref a0] lk_X12_297 (c3_spelt _ _ _ _ _ S g 119 101 101 107 0 (by omega) (by omega) (by omega) (by omega) (by omega)) kd28_17.2.2.2.2.2.2.1 rfl rfl (by simp [Value.category]) (by decide) (by decide) (by decide) (by decide) (fun r61 S63 g62 pr61 qr61 hg62 => ?_)
            obtain ⟨rfl, rfl, y64, rfl, k65⟩ := pr61
            refine X_st [.long y64, .ref a0] rfl ?_
            refine X_callV hK [.long y64] [] lk_X12_301 (c3_isKey _ _ _ _ _ S g a0 y64 kd wd hs_a0 (by omega) ekd hp1) hs_a0 ⟨by decide, rfl⟩ kd28_17.2.2.2.2.2.2.2.1 rfl rfl (by simp [Value.category]) (by decide) (by decide) (by decide) (by decide) (fun r66 S68 g67 pr66 qr66 hg67 => ?_)
            obtain ⟨rfl, rfl, z69, rfl, lz69, uz69, k70⟩ := pr66
            refine X_st [.int (iI z69)] rfl ?_
            have hq71 : z69 = 1 ↔ xtk f9 sz a9 = 15 := by rw [k70, k65, show iL (xspl 119 101 101 107 0) = iL (xvl 15) from by decide +kernel]; exact xHd.key hp2 (by omega)
            refine X_if_eq hK 136 (by omega) kd28_17.2.2.2.2.2.2.2.2.1 (by decide) (fun c72 => ?_) (fun c72 => ?_)
            · refine X_aloadn hK (i := 0) 0 kd28_17.2.2.2.2.2.2.2.2.2.2.2 rfl rfl ?_
              refine X_bipush hK kd28_18.1 (by decide) ?_
              refine X_bipush hK kd28_18.2.1 (by decide) ?_
              refine X_bipush hK kd28_18.2.2.1 (by decide) ?_
              refine X_iconst hK kd28_18.2.2.2.1 ?_
              refine X_iconst hK kd28_18.2.2.2.2.1 ?_
              refine X_callS hK [.int (iI 100), .int (iI 97), .int (iI 121), .int (iI 0), .int (iI 0)] [.ref a0] lk_X12_297 (c3_spelt _ _ _ _ _ S g 100 97 121 0 0 (by omega) (by omega) (by omega) (by omega) (by omega)) kd28_18.2.2.2.2.2.1 rfl rfl (by simp [Value.category]) (by decide) (by decide) (by decide) (by decide) (fun r73 S75 g74 pr73 qr73 hg74 => ?_)
              obtain ⟨rfl, rfl, y76, rfl, k77⟩ := pr73
              refine X_st [.long y76, .ref a0] rfl ?_
              refine X_callV hK [.long y76] [] lk_X12_301 (c3_isKey _ _ _ _ _ S g a0 y76 kd wd hs_a0 (by omega) ekd hp1) hs_a0 ⟨by decide, rfl⟩ kd28_18.2.2.2.2.2.2.1 rfl rfl (by simp [Value.category]) (by decide) (by decide) (by decide) (by decide) (fun r78 S80 g79 pr78 qr78 hg79 => ?_)
              obtain ⟨rfl, rfl, z81, rfl, lz81, uz81, k82⟩ := pr78
              refine X_st [.int (iI z81)] rfl ?_
              have hq83 : z81 = 1 ↔ xtk f9 sz a9 = 16 := by rw [k82, k77, show iL (xspl 100 97 121 0 0) = iL (xvl 16) from by decide +kernel]; exact xHd.key hp2 (by omega)
              refine X_if_eq hK 157 (by omega) kd28_18.2.2.2.2.2.2.2.1 (by decide) (fun c84 => ?_) (fun c84 => ?_)
              · refine X_aloadn hK (i := 0) 0 kd28_18.2.2.2.2.2.2.2.2.2.2.1 rfl rfl ?_
                refine X_bipush hK kd28_18.2.2.2.2.2.2.2.2.2.2.2 (by decide) ?_
                refine X_bipush hK kd28_19.1 (by decide) ?_
                refine X_bipush hK kd28_19.2.1 (by decide) ?_
                refine X_bipush hK kd28_19.2.2.1 (by decide) ?_
                refine X_bipush hK kd28_19.2.2.2.1 (by decide) ?_
                refine X_callS hK [.int (iI 112), .int (iI 97), .int (iI 112), .int (iI 101), .int (iI 114)] [.ref a0] lk_X12_297 (c3_spelt _ _ _ _ _ S g 112 97 112 101 114 (by omega) (by omega) (by omega) (by omega) (by omega)) kd28_19.2.2.2.2.1 rfl rfl (by simp [Value.category]) (by decide) (by decide) (by decide) (by decide) (fun r85 S87 g86 pr85 qr85 hg86 => ?_)
                obtain ⟨rfl, rfl, y88, rfl, k89⟩ := pr85
                refine X_st [.long y88, .ref a0] rfl ?_
                refine X_callV hK [.long y88] [] lk_X12_301 (c3_isKey _ _ _ _ _ S g a0 y88 kd wd hs_a0 (by omega) ekd hp1) hs_a0 ⟨by decide, rfl⟩ kd28_19.2.2.2.2.2.1 rfl rfl (by simp [Value.category]) (by decide) (by decide) (by decide) (by decide) (fun r90 S92 g91 pr90 qr90 hg91 => ?_)
                obtain ⟨rfl, rfl, z93, rfl, lz93, uz93, k94⟩ := pr90
                refine X_st [.int (iI z93)] rfl ?_
                have hq95 : z93 = 1 ↔ xtk f9 sz a9 = 17 := by rw [k94, k89, show iL (xspl 112 97 112 101 114) = iL (xvl 17) from by decide +kernel]; exact xHd.key hp2 (by omega)
                refine X_if_eq hK 180 (by omega) kd28_19.2.2.2.2.2.2.1 (by decide) (fun c96 => ?_) (fun c96 => ?_)
                · refine X_aloadn hK (i := 0) 0 kd28_19.2.2.2.2.2.2.2.2.2.1 rfl rfl ?_
                  refine X_ldc2E hK (a := 27) (by decide +kernel) kd28_19.2.2.2.2.2.2.2.2.2.2.1 m_29_6 ?_
                  refine X_bipush hK kd28_19.2.2.2.2.2.2.2.2.2.2.2 (by decide) ?_
                  refine X_bipush hK kd28_20.1 (by decide) ?_
                  refine X_bipush hK kd28_20.2.1 (by decide) ?_
                  refine X_bipush hK kd28_20.2.2.1 (by decide) ?_
                  refine X_bipush hK kd28_20.2.2.2.1 (by decide) ?_
                  refine X_callS hK [.int (iI 99), .int (iI 111), .int (iI 114), .int (iI 110), .int (iI 101)] [.long (iL 27), .ref a0] lk_X12_297 (c3_spelt _ _ _ _ _ S g 99 111 114 110 101 (by omega) (by omega) (by omega) (by omega) (by omega)) kd28_20.2.2.2.2.1 rfl rfl (by simp [Value.category]) (by decide) (by decide) (by decide) (by decide) (fun r97 S99 g98 pr97 qr97 hg98 => ?_)
                  obtain ⟨rfl, rfl, y100, rfl, k101⟩ := pr97
                  refine X_st [.long y100, .long (iL 27), .ref a0] rfl ?_
                  refine X_lmulE hK kd28_20.2.2.2.2.2.1 ?_
                  refine X_ldc2E hK (a := 18) (by decide +kernel) kd28_20.2.2.2.2.2.2.1 m_31_10 ?_
                  refine X_laddE hK kd28_20.2.2.2.2.2.2.2.1 ?_
                  refine X_callV hK [.long (((iL 27) * y100) + (iL 18))] [] lk_X12_301 (c3_isKey _ _ _ _ _ S g a0 (((iL 27) * y100) + (iL 18)) kd wd hs_a0 (by omega) ekd hp1) hs_a0 ⟨by decide, rfl⟩ kd28_20.2.2.2.2.2.2.2.2.1 rfl rfl (by simp [Value.category]) (by decide) (by decide) (by decide) (by decide) (fun r102 S104 g103 pr102 qr102 hg103 => ?_)
                  obtain ⟨rfl, rfl, z105, rfl, lz105, uz105, k106⟩ := pr102
                  refine X_st [.int (iI z105)] rfl ?_
                  have hq107 : z105 = 1 ↔ xtk f9 sz a9 = 18 := by rw [k106, k101, show (((iL 27) * (iL (xspl 99 111 114 110 101))) + (iL 18)) = iL (xvl 18) from by decide +kernel]; exact xHd.key hp2 (by omega)
                  refine X_if_eq hK 211 (by omega) kd28_20.2.2.2.2.2.2.2.2.2.1 (by decide) (fun c108 => ?_) (fun c108 => ?_)
                  · refine X_aloadn hK (i := 0) 0 kd28_21.1 rfl rfl ?_
                    refine X_ldc2E hK (a := 27) (by decide +kernel) kd28_21.2.1 m_29_6 ?_
                    refine X_bipush hK kd28_21.2.2.1 (by decide) ?_
                    refine X_bipush hK kd28_21.2.2.2.1 (by decide) ?_
                    refine X_bipush hK kd28_21.2.2.2.2.1 (by decide) ?_
                    refine X_bipush hK kd28_21.2.2.2.2.2.1 (by decide) ?_
                    refine X_bipush hK kd28_21.2.2.2.2.2.2.1 (by decide) ?_
                    refine X_callS hK [.int (iI 99), .int (iI 111), .int (iI 112), .int (iI 105), .int (iI 101)] [.long (iL 27), .ref a0] lk_X12_297 (c3_spelt _ _ _ _ _ S g 99 111 112 105 101 (by omega) (by omega) (by omega) (by omega) (by omega)) kd28_21.2.2.2.2.2.2.2.1 rfl rfl (by simp [Value.category]) (by decide) (by decide) (by decide) (by decide) (fun r109 S111 g110 pr109 qr109 hg110 => ?_)
                    obtain ⟨rfl, rfl, y112, rfl, k113⟩ := pr109
                    refine X_st [.long y112, .long (iL 27), .ref a0] rfl ?_
                    refine X_lmulE hK kd28_21.2.2.2.2.2.2.2.2.1 ?_
                    refine X_ldc2E hK (a := 19) (by decide +kernel) kd28_21.2.2.2.2.2.2.2.2.2.1 m_31_11 ?_
                    refine X_laddE hK kd28_21.2.2.2.2.2.2.2.2.2.2.1 ?_
                    refine X_callV hK [.long (((iL 27) * y112) + (iL 19))] [] lk_X12_301 (c3_isKey _ _ _ _ _ S g a0 (((iL 27) * y112) + (iL 19)) kd wd hs_a0 (by omega) ekd hp1) hs_a0 ⟨by decide, rfl⟩ kd28_21.2.2.2.2.2.2.2.2.2.2.2 rfl rfl (by simp [Value.category]) (by decide) (by decide) (by decide) (by decide) (fun r114 S116 g115 pr114 qr114 hg115 => ?_)
                    obtain ⟨rfl, rfl, z117, rfl, lz117, uz117, k118⟩ := pr114
                    refine X_st [.int (iI z117)] rfl ?_
                    have hq119 : z117 = 1 ↔ xtk f9 sz a9 = 19 := by rw [k118, k113, show (((iL 27) * (iL (xspl 99 111 112 105 101))) + (iL 19)) = iL (xvl 19) from by decide +kernel]; exact xHd.key hp2 (by omega)
                    refine X_if_eq hK 242 (by omega) kd28_22.1 (by decide) (fun c120 => ?_) (fun c120 => ?_)
                    · refine X_aloadn hK (i := 0) 0 kd28_22.2.2.2.1 rfl rfl ?_
                      refine X_ldc2E hK (a := 27) (by decide +kernel) kd28_22.2.2.2.2.1 m_29_6 ?_
                      refine X_ldc2E hK (a := 27) (by decide +kernel) kd28_22.2.2.2.2.2.1 m_29_6 ?_
                      refine X_bipush hK kd28_22.2.2.2.2.2.2.1 (by decide) ?_
                      refine X_bipush hK kd28_22.2.2.2.2.2.2.2.1 (by decide) ?_
                      refine X_bipush hK kd28_22.2.2.2.2.2.2.2.2.1 (by decide) ?_
                      refine X_bipush hK kd28_22.2.2.2.2.2.2.2.2.2.1 (by decide) ?_
                      refine X_bipush hK kd28_22.2.2.2.2.2.2.2.2.2.2.1 (by decide) ?_
                      refine X_callS hK [.int (iI 119), .int (iI 101), .int (iI 97), .int (iI 116), .int (iI 104)] [.long (iL 27), .long (iL 27), .ref a0] lk_X12_297 (c3_spelt _ _ _ _ _ S g 119 101 97 116 104 (by omega) (by omega) (by omega) (by omega) (by omega)) kd28_22.2.2.2.2.2.2.2.2.2.2.2 rfl rfl (by simp [Value.category]) (by decide) (by decide) (by decide) (by decide) (fun r121 S123 g122 pr121 qr121 hg122 => ?_)
                      obtain ⟨rfl, rfl, y124, rfl, k125⟩ := pr121
                      refine X_st [.long y124, .long (iL 27), .long (iL 27), .ref a0] rfl ?_
                      refine X_lmulE hK kd28_23.1 ?_
                      refine X_ldc2E hK (a := 5) (by decide +kernel) kd28_23.2.1 m_31_12 ?_
                      refine X_laddE hK kd28_23.2.2.1 ?_
                      refine X_lmulE hK kd28_23.2.2.2.1 ?_
                      refine X_ldc2E hK (a := 18) (by decide +kernel) kd28_23.2.2.2.2.1 m_31_10 ?_
                      refine X_laddE hK kd28_23.2.2.2.2.2.1 ?_
                      refine X_callV hK [.long (((iL 27) * (((iL 27) * y124) + (iL 5))) + (iL 18))] [] lk_X12_301 (c3_isKey _ _ _ _ _ S g a0 (((iL 27) * (((iL 27) * y124) + (iL 5))) + (iL 18)) kd wd hs_a0 (by omega) ekd hp1) hs_a0 ⟨by decide, rfl⟩ kd28_23.2.2.2.2.2.2.1 rfl rfl (by simp [Value.category]) (by decide) (by decide) (by decide) (by decide) (fun r126 S128 g127 pr126 qr126 hg127 => ?_)
                      obtain ⟨rfl, rfl, z129, rfl, lz129, uz129, k130⟩ := pr126
                      refine X_st [.int (iI z129)] rfl ?_
                      have hq131 : z129 = 1 ↔ xtk f9 sz a9 = 20 := by rw [k130, k125, show (((iL 27) * (((iL 27) * (iL (xspl 119 101 97 116 104))) + (iL 5))) + (iL 18)) = iL (xvl 20) from by decide +kernel]; exact xHd.key hp2 (by omega)
                      refine X_if_eq hK 281 (by omega) kd28_23.2.2.2.2.2.2.2.1 (by decide) (fun c132 => ?_) (fun c132 => ?_)
                      · refine X_aloadn hK (i := 0) 0 kd28_23.2.2.2.2.2.2.2.2.2.2.1 rfl rfl ?_
                        refine X_bipush hK kd28_23.2.2.2.2.2.2.2.2.2.2.2 (by decide) ?_
                        refine X_bipush hK kd28_24.1 (by decide) ?_
                        refine X_bipush hK kd28_24.2.1 (by decide) ?_
                        refine X_bipush hK kd28_24.2.2.1 (by decide) ?_
                        refine X_bipush hK kd28_24.2.2.2.1 (by decide) ?_
                        refine X_callS hK [.int (iI 102), .int (iI 105), .int (iI 115), .int (iI 116), .int (iI 115)] [.ref a0] lk_X12_297 (c3_spelt _ _ _ _ _ S g 102 105 115 116 115 (by omega) (by omega) (by omega) (by omega) (by omega)) kd28_24.2.2.2.2.1 rfl rfl (by simp [Value.category]) (by decide) (by decide) (by decide) (by decide) (fun r133 S135 g134 pr133 qr133 hg134 => ?_)
                        obtain ⟨rfl, rfl, y136, rfl, k137⟩ := pr133
                        refine X_st [.long y136, .ref a0] rfl ?_
                        refine X_callV hK [.long y136] [] lk_X12_301 (c3_isKey _ _ _ _ _ S g a0 y136 kd wd hs_a0 (by omega) ekd hp1) hs_a0 ⟨by decide, rfl⟩ kd28_24.2.2.2.2.2.1 rfl rfl (by simp [Value.category]) (by decide) (by decide) (by decide) (by decide) (fun r138 S140 g139 pr138 qr138 hg139 => ?_)
                        obtain ⟨rfl, rfl, z141, rfl, lz141, uz141, k142⟩ := pr138
                        refine X_st [.int (iI z141)] rfl ?_
                        have hq143 : z141 = 1 ↔ xtk f9 sz a9 = 21 := by rw [k142, k137, show iL (xspl 102 105 115 116 115) = iL (xvl 21) from by decide +kernel]; exact xHd.key hp2 (by omega)
                        refine X_if_eq hK 306 (by omega) kd28_24.2.2.2.2.2.2.1 (by decide) (fun c144 => ?_) (fun c144 => ?_)
                        · refine X_iconst hK kd28_24.2.2.2.2.2.2.2.2.2.1 ?_
                          exact hret _ _ _ _ _ _ _ kd28_24.2.2.2.2.2.2.2.2.2.2.1 ⟨rfl, rfl, (-1), rfl, (by omega), (by omega), (Or.inr ⟨xatn (fun q9 => by have h9 := hq11.mpr q9; omega) (fun q9 => by have h9 := hq23.mpr q9; omega) (fun q9 => by have h9 := hq35.mpr q9; omega) (fun q9 => by have h9 := hq47.mpr q9; omega) (fun q9 => by have h9 := hq59.mpr q9; omega) (fun q9 => by have h9 := hq71.mpr q9; omega) (fun q9 => by have h9 := hq83.mpr q9; omega) (fun q9 => by have h9 := hq95.mpr q9; omega) (fun q9 => by have h9 := hq107.mpr q9; omega) (fun q9 => by have h9 := hq119.mpr q9; omega) (fun q9 => by have h9 := hq131.mpr q9; omega) (fun q9 => by have h9 := hq143.mpr q9; omega), rfl⟩)⟩ (Nat.le_refl _) (Nat.le_refl _)
                        · refine X_bipush hK kd28_24.2.2.2.2.2.2.2.1 (by decide) ?_
                          refine X_goto hK 307 kd28_24.2.2.2.2.2.2.2.2.1 (by decide) ?_
                          exact hret _ _ _ _ _ _ _ kd28_24.2.2.2.2.2.2.2.2.2.2.1 ⟨rfl, rfl, 11, rfl, (by omega), (by omega), (xatp (hq143.mp (by omega)) (by decide) (by decide))⟩ (Nat.le_refl _) (Nat.le_refl _)
                      · refine X_bipush hK kd28_23.2.2.2.2.2.2.2.2.1 (by decide) ?_
                        exact hret _ _ _ _ _ _ _ kd28_23.2.2.2.2.2.2.2.2.2.1 ⟨rfl, rfl, 10, rfl, (by omega), (by omega), (xatp (hq131.mp (by omega)) (by decide) (by decide))⟩ (Nat.le_refl _) (Nat.le_refl _)
                    · refine X_bipush hK kd28_22.2.1 (by decide) ?_
                      exact hret _ _ _ _ _ _ _ kd28_22.2.2.1 ⟨rfl, rfl, 9, rfl, (by omega), (by omega), (xatp (hq119.mp (by omega)) (by decide) (by decide))⟩ (Nat.le_refl _) (Nat.le_refl _)
                  · refine X_bipush hK kd28_20.2.2.2.2.2.2.2.2.2.2.1 (by decide) ?_
                    exact hret _ _ _ _ _ _ _ kd28_20.2.2.2.2.2.2.2.2.2.2.2 ⟨rfl, rfl, 8, rfl, (by omega), (by omega), (xatp (hq107.mp (by omega)) (by decide) (by decide))⟩ (Nat.le_refl _) (Nat.le_refl _)
                · refine X_bipush hK kd28_19.2.2.2.2.2.2.2.1 (by decide) ?_
                  exact hret _ _ _ _ _ _ _ kd28_19.2.2.2.2.2.2.2.2.1 ⟨rfl, rfl, 7, rfl, (by omega), (by omega), (xatp (hq95.mp (by omega)) (by decide) (by decide))⟩ (Nat.le_refl _) (Nat.le_refl _)
              · refine X_bipush hK kd28_18.2.2.2.2.2.2.2.2.1 (by decide) ?_
                exact hret _ _ _ _ _ _ _ kd28_18.2.2.2.2.2.2.2.2.2.1 ⟨rfl, rfl, 6, rfl, (by omega), (by omega), (xatp (hq83.mp (by omega)) (by decide) (by decide))⟩ (Nat.le_refl _) (Nat.le_refl _)
            · refine X_iconst hK kd28_17.2.2.2.2.2.2.2.2.2.1 ?_
              exact hret _ _ _ _ _ _ _ kd28_17.2.2.2.2.2.2.2.2.2.2.1 ⟨rfl, rfl, 5, rfl, (by omega), (by omega), (xatp (hq71.mp (by omega)) (by decide) (by decide))⟩ (Nat.le_refl _) (Nat.le_refl _)
          · refine X_iconst hK kd28_16.2.2.2.2.2.2.2.2.2.2.1 ?_
            exact hret _ _ _ _ _ _ _ kd28_16.2.2.2.2.2.2.2.2.2.2.2 ⟨rfl, rfl, 4, rfl, (by omega), (by omega), (xatp (hq59.mp (by omega)) (by decide) (by decide))⟩ (Nat.le_refl _) (Nat.le_refl _)
        · refine X_iconst hK kd28_15.2.2.2.2.2.2.2.2.2.2.2 ?_
          exact hret _ _ _ _ _ _ _ kd28_16.1 ⟨rfl, rfl, 3, rfl, (by omega), (by omega), (xatp (hq47.mp (by omega)) (by decide) (by decide))⟩ (Nat.le_refl _) (Nat.le_refl _)
      · refine X_iconst hK kd28_15.1 ?_
        exact hret _ _ _ _ _ _ _ kd28_15.2.1 ⟨rfl, rfl, 2, rfl, (by omega), (by omega), (xatp (hq35.mp (by omega)) (by decide) (by decide))⟩ (Nat.le_refl _) (Nat.le_refl _)
    · refine X_iconst hK kd28_14.2.1 ?_
      exact hret _ _ _ _ _ _ _ kd28_14.2.2.1 ⟨rfl, rfl, 1, rfl, (by omega), (by omega), (xatp (hq23.mp (by omega)) (by decide) (by decide))⟩ (Nat.le_refl _) (Nat.le_refl _)
  · refine X_iconst hK kd28_13.2.2.1 ?_
    exact hret _ _ _ _ _ _ _ kd28_13.2.2.2.1 ⟨rfl, rfl, 0, rfl, (by omega), (by omega), (xatp (hq11.mp (by omega)) (by decide) (by decide))⟩ (Nat.le_refl _) (Nat.le_refl _)
