
set_option maxHeartbeats 4000000 in
set_option maxRecDepth 100000 in
theorem c3_isMark (l : Launch) (D : va_G) (kA : Nat → ClassId) (b0 : Nat) (t0 : Nat → Nat) (S : xT) (g : xG) (x0 : Int) (hx0 : (-2147483648) ≤ x0 ∧ x0 ≤ 2147483647) : xMt l yX12_isMark cX12_isMark 1 (some .boolean) 0 0 0 0 D kA b0 t0 [] [.int (iI x0)] S g (fun (r : Option Value) (S1 : xT) (g1 : xG) => S = S1 ∧ g = g1 ∧ ∃ z : Int, r = some (.int (iI z)) ∧ 0 ≤ z ∧ z ≤ 1 ∧ ((z = 1 ↔ x0 = 59 ∨ x0 = 40 ∨ x0 = 41 ∨ x0 = 60 ∨ x0 = 61 ∨ x0 = 62))) := by
  refine xEnterZ (by decide) (by simp [lg_sl, Value.category]) [(0, .int (iI x0))] rfl ?_
  intro K E hK hret _ _ _
  refine X_iloadn hK (i := 0) 0 kd20_14.2.2.2.2.2.2.2.2.2.2.2 rfl rfl ?_
  refine X_bipush hK kd20_15.1 (by decide) ?_
  refine X_icmp_eq hK 36 (by omega) (by omega) kd20_15.2.1 (by decide) (fun c1 => ?_) (fun c1 => ?_)
  · refine X_iconst hK kd20_16.2.2.2.2.2.1 ?_
    refine X_goto hK 41 kd20_16.2.2.2.2.2.2.1 (by decide) ?_
    exact hret _ _ _ _ _ _ _ kd20_16.2.2.2.2.2.2.2.2.1 (by omega) (by omega) ⟨rfl, rfl, 1, rfl, (by omega), (by omega), (by omega)⟩ (Nat.le_refl _) (Nat.le_refl _)
  · refine X_iloadn hK (i := 0) 0 kd20_15.2.2.1 rfl rfl ?_
    refine X_bipush hK kd20_15.2.2.2.1 (by decide) ?_
    refine X_icmp_eq hK 36 (by omega) (by omega) kd20_15.2.2.2.2.1 (by decide) (fun c2 => ?_) (fun c2 => ?_)
    · refine X_iconst hK kd20_16.2.2.2.2.2.1 ?_
      refine X_goto hK 41 kd20_16.2.2.2.2.2.2.1 (by decide) ?_
      exact hret _ _ _ _ _ _ _ kd20_16.2.2.2.2.2.2.2.2.1 (by omega) (by omega) ⟨rfl, rfl, 1, rfl, (by omega), (by omega), (by omega)⟩ (Nat.le_refl _) (Nat.le_refl _)
    · refine X_iloadn hK (i := 0) 0 kd20_15.2.2.2.2.2.1 rfl rfl ?_
      refine X_bipush hK kd20_15.2.2.2.2.2.2.1 (by decide) ?_
      refine X_icmp_eq hK 36 (by omega) (by omega) kd20_15.2.2.2.2.2.2.2.1 (by decide) (fun c3 => ?_) (fun c3 => ?_)
      · refine X_iconst hK kd20_16.2.2.2.2.2.1 ?_
        refine X_goto hK 41 kd20_16.2.2.2.2.2.2.1 (by decide) ?_
        exact hret _ _ _ _ _ _ _ kd20_16.2.2.2.2.2.2.2.2.1 (by omega) (by omega) ⟨rfl, rfl, 1, rfl, (by omega), (by omega), (by omega)⟩ (Nat.le_refl _) (Nat.le_refl _)
      · refine X_iloadn hK (i := 0) 0 kd20_15.2.2.2.2.2.2.2.2.1 rfl rfl ?_
        refine X_bipush hK kd20_15.2.2.2.2.2.2.2.2.2.1 (by decide) ?_
        refine X_icmp_eq hK 36 (by omega) (by omega) kd20_15.2.2.2.2.2.2.2.2.2.2.1 (by decide) (fun c4 => ?_) (fun c4 => ?_)
        · refine X_iconst hK kd20_16.2.2.2.2.2.1 ?_
          refine X_goto hK 41 kd20_16.2.2.2.2.2.2.1 (by decide) ?_
          exact hret _ _ _ _ _ _ _ kd20_16.2.2.2.2.2.2.2.2.1 (by omega) (by omega) ⟨rfl, rfl, 1, rfl, (by omega), (by omega), (by omega)⟩ (Nat.le_refl _) (Nat.le_refl _)
        · refine X_iloadn hK (i := 0) 0 kd20_15.2.2.2.2.2.2.2.2.2.2.2 rfl rfl ?_
          refine X_bipush hK kd20_16.1 (by decide) ?_
          refine X_icmp_eq hK 36 (by omega) (by omega) kd20_16.2.1 (by decide) (fun c5 => ?_) (fun c5 => ?_)
          · refine X_iconst hK kd20_16.2.2.2.2.2.1 ?_
            refine X_goto hK 41 kd20_16.2.2.2.2.2.2.1 (by decide) ?_
            exact hret _ _ _ _ _ _ _ kd20_16.2.2.2.2.2.2.2.2.1 (by omega) (by omega) ⟨rfl, rfl, 1, rfl, (by omega), (by omega), (by omega)⟩ (Nat.le_refl _) (Nat.le_refl _)
          · refine X_iloadn hK (i := 0) 0 kd20_16.2.2.1 rfl rfl ?_
            refine X_bipush hK kd20_16.2.2.2.1 (by decide) ?_
            refine X_icmp_ne hK 40 (by omega) (by omega) kd20_16.2.2.2.2.1 (by decide) (fun c6 => ?_) (fun c6 => ?_)
            · refine X_iconst hK kd20_16.2.2.2.2.2.2.2.1 ?_
              exact hret _ _ _ _ _ _ _ kd20_16.2.2.2.2.2.2.2.2.1 (by omega) (by omega) ⟨rfl, rfl, 0, rfl, (by omega), (by omega), (by omega)⟩ (Nat.le_refl _) (Nat.le_refl _)
            · refine X_iconst hK kd20_16.2.2.2.2.2.1 ?_
              refine X_goto hK 41 kd20_16.2.2.2.2.2.2.1 (by decide) ?_
              exact hret _ _ _ _ _ _ _ kd20_16.2.2.2.2.2.2.2.2.1 (by omega) (by omega) ⟨rfl, rfl, 1, rfl, (by omega), (by omega), (by omega)⟩ (Nat.le_refl _) (Nat.le_refl _)

set_option maxHeartbeats 4000000 in
set_option maxRecDepth 100000 in
theorem c3_byteAt (l : Launch) (D : va_G) (kA : Nat → ClassId) (b0 : Nat) (t0 : Nat → Nat) (S : xT) (g : xG) (a0 : Nat) (x1 : Int) (sz : Int) (y0 : Nat) (hs_a0 : S a0 = some (13, 0)) (hx1 : 0 ≤ x1 ∧ x1 ≤ 420) (hsz : 0 ≤ sz ∧ sz ≤ 420) (esz : g a0 19 = .int (iI sz)) (ey0 : g a0 1 = .ref y0) (hs_y0 : S y0 = some (14100, 420)) : xMt l yX12_byteAt cX12_byteAt 2 (some .int) 0 0 0 0 D kA b0 t0 [] [.ref a0, .int (iI x1)] S g (fun (r : Option Value) (S1 : xT) (g1 : xG) => S = S1 ∧ g = g1 ∧ ∃ z : Int, r = some (.int (iI z)) ∧ 0 ≤ z ∧ z ≤ 255 ∧ (z = 0 ∨ x1 ≤ 419) ∧ ((x1 < sz ∧ z = xv g y0 x1) ∨ (sz ≤ x1 ∧ z = 0))) := by
  refine xEnterI (by decide) (by simp [lg_sl, Value.category]) [(0, .ref a0), (1, .int (iI x1))] rfl ?_
  intro K E hK hret _ _ _
  refine X_iloadn hK (i := 1) 1 kd28_45.1 rfl rfl ?_
  refine X_aloadn hK (i := 0) 0 kd28_45.2.1 rfl rfl ?_
  refine X_getK hK fl_X12_253_13 hs_a0 esz kd28_45.2.2.1 ?_
  refine X_icmp_ge hK 17 (by omega) (by omega) kd28_45.2.2.2.1 (by decide) (fun c1 => ?_) (fun c1 => ?_)
  · refine X_iconst hK kd28_45.2.2.2.2.2.2.2.2.2.1 ?_
    exact hret _ _ _ _ _ _ _ kd28_45.2.2.2.2.2.2.2.2.2.2.1 ⟨rfl, rfl, 0, rfl, (by omega), (by omega), (by omega), (Or.inr ⟨by omega, rfl⟩)⟩ (Nat.le_refl _) (Nat.le_refl _)
  · refine X_aloadn hK (i := 0) 0 kd28_45.2.2.2.2.1 rfl rfl ?_
    refine X_getK hK fl_X12_7_13 hs_a0 ey0 kd28_45.2.2.2.2.2.1 ?_
    refine X_iloadn hK (i := 1) 1 kd28_45.2.2.2.2.2.2.1 rfl rfl ?_
    refine X_iald hK hs_y0 (by decide) sl_14100 (by omega) (by omega) kd28_45.2.2.2.2.2.2.2.1 (fun z2 ez2 lz2 uz2 => ?_)
    have hw3 : xv g y0 x1 = z2 := xv_e (j := x1) ez2 (by omega)
    refine X_goto hK 18 kd28_45.2.2.2.2.2.2.2.2.1 (by decide) ?_
    exact hret _ _ _ _ _ _ _ kd28_45.2.2.2.2.2.2.2.2.2.2.1 ⟨rfl, rfl, z2, rfl, (by omega), (by omega), (by omega), (Or.inl ⟨by omega, hw3.symm⟩)⟩ (Nat.le_refl _) (Nat.le_refl _)

set_option maxHeartbeats 4000000 in
set_option maxRecDepth 100000 in
theorem c3_go (l : Launch) (D : va_G) (kA : Nat → ClassId) (b0 : Nat) (t0 : Nat → Nat) (S : xT) (g : xG) (a0 : Nat) (sz : Int) (tt : Int) (y0 : Nat) (nn0 : Int) (ns0 : Int) (hs_a0 : S a0 = some (13, 0)) (hsz : 0 ≤ sz ∧ sz ≤ 420) (esz : g a0 19 = .int (iI sz)) (htt : 0 ≤ tt ∧ tt ≤ 420) (ett : g a0 20 = .int (iI tt)) (ey0 : g a0 1 = .ref y0) (hs_y0 : S y0 = some (14100, 420)) (hnn0 : (-2147483648) ≤ nn0 ∧ nn0 ≤ 2147483647) (enn0 : g a0 23 = .int (iI nn0)) (hns0 : (-2147483648) ≤ ns0 ∧ ns0 ≤ 2147483647) (ens0 : g a0 24 = .int (iI ns0)) (hp0 : tt ≤ sz) : xMt l yX12_go cX12_go 5 none 1 0 0 21 D kA b0 t0 [(13, 21), (13, 22), (13, 20), (13, 24), (13, 28), (13, 23)] [.ref a0] S g (fun (r : Option Value) (S1 : xT) (g1 : xG) => S = S1 ∧ r = none ∧ (∃ k9 n9 s9 : Int, ∃ w9 : Int64, g1 a0 22 = .int (iI k9) ∧ g1 a0 23 = .int (iI n9) ∧ g1 a0 24 = .int (iI s9) ∧ g1 a0 28 = .long w9 ∧ (0 ≤ k9 ∧ k9 ≤ 4 ∧ (-2147483648 ≤ n9 ∧ n9 ≤ 2147483647) ∧ (-2147483648 ≤ s9 ∧ s9 ≤ 2147483647)) ∧ g1 a0 21 = .int (iI (xplc sz (xskp (xv g y0) sz tt))) ∧ g1 a0 20 = .int (iI (xed (xv g y0) sz (xskp (xv g y0) sz tt))) ∧ (xCuL (xcd (xv g y0) sz (xskp (xv g y0) sz tt)) k9 n9 w9 s9 ∧ xHn sz k9 (xcd (xv g y0) sz (xskp (xv g y0) sz tt))))) := by
  refine xEnterV (by decide) (by simp [lg_sl, Value.category]) [(0, .ref a0)] rfl ?_
  intro K E hK hret _ _ _
  have P3905 : ∀ (nP3905 : Nat) (g3124 : xG) (_ : xM [(13, 20)] S g g3124) (q3125 : Int) (_ : 0 ≤ q3125) (_ : q3125 ≤ 420) (_ : g3124 a0 20 = .int (iI q3125)) (_ : xskp (xv g y0) sz q3125 = xskp (xv g y0) sz tt) (_ : tt ≤ q3125) (_ : q3125 ≤ sz) (_ : 420 - q3125 < (nP3905 : Int)), X K E 0 [(0, .ref a0)] [] S g3124 0 0 := by
    intro nP3905
    induction nP3905 with
    | zero => intro g3124 hg3124 q3125 lq3125 uq3125 eq3125 v3906 v3907 v3908 mP3905; exact False.elim (by omega)
    | succ nP3905 ihP3905 =>
      intro g3124 hg3124 q3125 lq3125 uq3125 eq3125 v3906 v3907 v3908 mP3905
      refine X_aloadn hK (i := 0) 0 kd28_69.2.2.2.2.2.2.2.2.1 rfl rfl ?_
      refine X_wt (fun hWy3909 => ?_)
      obtain ⟨y3909, ey3909⟩ : ∃ y9 : Int64, g3124 a0 28 = .long y9 := by have h9 := hWy3909 _ _ _ hs_a0 28 (Or.inl (by decide)); rw [sl_13_28] at h9; exact h9
      refine X_getK hK fl_X12_256_13 hs_a0 eq3125 kd28_69.2.2.2.2.2.2.2.2.2.1 ?_
      refine X_aloadn hK (i := 0) 0 kd28_69.2.2.2.2.2.2.2.2.2.2.1 rfl rfl ?_
      refine X_getK hK fl_X12_253_13 hs_a0 ((hg3124 a0 13 0 19 hs_a0 (by decide)).trans esz) kd28_69.2.2.2.2.2.2.2.2.2.2.2 ?_
      refine X_icmp_ge hK 52 (by omega) (by omega) kd28_70.1 (by decide) (fun c3910 => ?_) (fun c3910 => ?_)
      · refine X_aloadn hK (i := 0) 0 kd28_71.2.2.2.2.2.2.2.2.2.2.1 rfl rfl ?_
        have hS : xskp (xv g y0) sz tt = q3125 := v3906.symm.trans (xskp.z (fun q9 => by omega))
        refine X_aloadn hK (i := 0) 0 kd28_71.2.2.2.2.2.2.2.2.2.2.2 rfl rfl ?_
        refine X_getK hK fl_X12_256_13 hs_a0 eq3125 kd28_72.1 ?_
        refine X_puti hK fl_X12_259_13 hs_a0 (by decide) sl_13_21 (by omega) (by omega) kd28_72.2.1 (fun g3911 hg3911 => ?_)
        refine X_aloadn hK (i := 0) 0 kd28_72.2.2.1 rfl rfl ?_
        refine X_getK hK fl_X12_253_13 hs_a0 ((xs_k hg3911 (by decide)).trans ((hg3124 a0 13 0 19 hs_a0 (by decide)).trans esz)) kd28_72.2.2.2.1 ?_
        refine X_sipush hK kd28_72.2.2.2.2.1 (by decide) ?_
        refine X_icmp_le hK 93 (by omega) (by omega) kd28_72.2.2.2.2.2.1 (by decide) (fun c3912 => ?_) (fun c3912 => ?_)
        · refine X_aloadn hK (i := 0) 0 kd28_73.2.2.2.2.2.1 rfl rfl ?_
          refine X_getK hK fl_X12_256_13 hs_a0 ((xs_k hg3911 (by decide)).trans eq3125) kd28_73.2.2.2.2.2.2.1 ?_
          refine X_aloadn hK (i := 0) 0 kd28_73.2.2.2.2.2.2.2.1 rfl rfl ?_
          refine X_getK hK fl_X12_253_13 hs_a0 ((xs_k hg3911 (by decide)).trans ((hg3124 a0 13 0 19 hs_a0 (by decide)).trans esz)) kd28_73.2.2.2.2.2.2.2.2.1 ?_
          refine X_icmp_lt hK 110 (by omega) (by omega) kd28_73.2.2.2.2.2.2.2.2.2.1 (by decide) (fun c3916 => False.elim (by omega)) (fun c3916 => ?_)
          refine X_aloadn hK (i := 0) 0 kd28_73.2.2.2.2.2.2.2.2.2.2.1 rfl rfl ?_
          refine X_iconst hK kd28_73.2.2.2.2.2.2.2.2.2.2.2 ?_
          refine X_puti hK fl_X12_262_13 hs_a0 (by decide) sl_13_22 (by omega) (by omega) kd28_74.1 (fun g3917 hg3917 => ?_)
          exact hret _ _ _ _ _ _ kd28_74.2.1 ⟨rfl, rfl, ⟨0, nn0, ns0, y3909, (xs_s hg3917), ((xs_k hg3917 (by decide)).trans ((xs_k hg3911 (by decide)).trans ((hg3124 a0 13 0 23 hs_a0 (by decide)).trans enn0))), ((xs_k hg3917 (by decide)).trans ((xs_k hg3911 (by decide)).trans ((hg3124 a0 13 0 24 hs_a0 (by decide)).trans ens0))), ((xs_k hg3917 (by decide)).trans ((xs_k hg3911 (by decide)).trans ey3909)), (by omega), (by rw [hS]; exact ((xs_k hg3917 (by decide)).trans (xs_s hg3911)).trans (by have h7 := (xskp.ge (f := (xv g y0)) (n := sz) (sz - tt).toNat tt (Nat.le_refl _)).2.1 (by omega); rw [hS] at h7; unfold xplc; rw [if_neg (by omega)]; split <;> (congr 2; omega))), (by rw [hS]; exact ((xs_k hg3917 (by decide)).trans ((xs_k hg3911 (by decide)).trans eq3125)).trans (by unfold xed; rw [if_neg (by omega)])), (by rw [hS]; unfold xcd; rw [if_neg (by omega)]; refine ⟨?_, ⟨fun h9 => by omega, fun h9 h8 => by omega⟩⟩; exact Or.inr (Or.inr (Or.inr (Or.inr ⟨rfl, rfl⟩))))⟩⟩ (Nat.le_refl _) (Nat.le_refl _)
        · refine X_aloadn hK (i := 0) 0 kd28_72.2.2.2.2.2.2.1 rfl rfl ?_
          refine X_getK hK fl_X12_259_13 hs_a0 (xs_s hg3911) kd28_72.2.2.2.2.2.2.2.1 ?_
          refine X_sipush hK kd28_72.2.2.2.2.2.2.2.2.1 (by decide) ?_
          refine X_icmp_lt hK 93 (by omega) (by omega) kd28_72.2.2.2.2.2.2.2.2.2.1 (by decide) (fun c3918 => False.elim (by omega)) (fun c3918 => ?_)
          refine X_aloadn hK (i := 0) 0 kd28_72.2.2.2.2.2.2.2.2.2.2.1 rfl rfl ?_
          refine X_sipush hK kd28_72.2.2.2.2.2.2.2.2.2.2.2 (by decide) ?_
          refine X_puti hK fl_X12_259_13 hs_a0 (by decide) sl_13_21 (by omega) (by omega) kd28_73.1 (fun g3919 hg3919 => ?_)
          refine X_aloadn hK (i := 0) 0 kd28_73.2.1 rfl rfl ?_
          refine X_iconst hK kd28_73.2.2.1 ?_
          refine X_puti hK fl_X12_262_13 hs_a0 (by decide) sl_13_22 (by omega) (by omega) kd28_73.2.2.2.1 (fun g3920 hg3920 => ?_)
          exact hret _ _ _ _ _ _ kd28_73.2.2.2.2.1 ⟨rfl, rfl, ⟨1, nn0, ns0, y3909, (xs_s hg3920), ((xs_k hg3920 (by decide)).trans ((xs_k hg3919 (by decide)).trans ((xs_k hg3911 (by decide)).trans ((hg3124 a0 13 0 23 hs_a0 (by decide)).trans enn0)))), ((xs_k hg3920 (by decide)).trans ((xs_k hg3919 (by decide)).trans ((xs_k hg3911 (by decide)).trans ((hg3124 a0 13 0 24 hs_a0 (by decide)).trans ens0)))), ((xs_k hg3920 (by decide)).trans ((xs_k hg3919 (by decide)).trans ((xs_k hg3911 (by decide)).trans ey3909))), (by omega), (by rw [hS]; exact ((xs_k hg3920 (by decide)).trans (xs_s hg3919)).trans (by have h7 := (xskp.ge (f := (xv g y0)) (n := sz) (sz - tt).toNat tt (Nat.le_refl _)).2.1 (by omega); rw [hS] at h7; unfold xplc; rw [if_neg (by omega)]; rw [if_neg (by omega)])), (by rw [hS]; exact ((xs_k hg3920 (by decide)).trans ((xs_k hg3919 (by decide)).trans ((xs_k hg3911 (by decide)).trans eq3125))).trans (by unfold xed; rw [if_neg (by omega)])), (by rw [hS]; unfold xcd; rw [if_neg (by omega)]; refine ⟨?_, ⟨fun h9 => by omega, fun h9 h8 => by omega⟩⟩; exact Or.inr (Or.inr (Or.inr (Or.inl ⟨rfl, Or.inr rfl⟩))))⟩⟩ (Nat.le_refl _) (Nat.le_refl _)
      · refine X_aloadn hK (i := 0) 0 kd28_70.2.1 rfl rfl ?_
        refine X_getK hK fl_X12_7_13 hs_a0 ((hg3124 a0 13 0 1 hs_a0 (by decide)).trans ey0) kd28_70.2.2.1 ?_
        refine X_aloadn hK (i := 0) 0 kd28_70.2.2.2.1 rfl rfl ?_
        refine X_getK hK fl_X12_256_13 hs_a0 eq3125 kd28_70.2.2.2.2.1 ?_
        refine X_iald hK hs_y0 (by decide) sl_14100 (by omega) (by omega) kd28_70.2.2.2.2.2.1 (fun z3921 ez3921 lz3921 uz3921 => ?_)
        have hl3922 : xv g y0 q3125 = z3921 := xv_e (j := q3125) ((hg3124 _ _ _ _ hs_y0 (by rw [xky_a (by decide)]; decide)).symm.trans ez3921) (by omega)
        refine X_bipush hK kd28_70.2.2.2.2.2.2.1 (by decide) ?_
        refine X_icmp_eq hK 39 (by omega) (by omega) kd28_70.2.2.2.2.2.2.2.1 (by decide) (fun c3923 => ?_) (fun c3923 => ?_)
        · refine X_aloadn hK (i := 0) 0 kd28_71.2.2.2.1 rfl rfl ?_
          refine X_dup hK kd28_71.2.2.2.2.1 rfl ?_
          refine X_getK hK fl_X12_256_13 hs_a0 eq3125 kd28_71.2.2.2.2.2.1 ?_
          refine X_iconst hK kd28_71.2.2.2.2.2.2.1 ?_
          refine X_iadd hK kd28_71.2.2.2.2.2.2.2.1 ?_
          refine X_puti hK fl_X12_256_13 hs_a0 (by decide) sl_13_20 (by omega) (by omega) kd28_71.2.2.2.2.2.2.2.2.1 (fun g3924 hg3924 => ?_)
          refine X_goto hK 0 kd28_71.2.2.2.2.2.2.2.2.2.1 (by decide) ?_
          exact ihP3905  g3924 (xM_up (xM.tr xM.rf xLe.rf hg3124 (by decide)) hg3924 hs_a0 (by decide) (by decide)) (q3125 + 1) (by omega) (by omega) (xs_s hg3924) ((xskp.s ⟨by omega, (by rw [hl3922]; omega)⟩).symm.trans v3906) (by omega) (by omega) (by omega)
        · refine X_aloadn hK (i := 0) 0 kd28_70.2.2.2.2.2.2.2.2.1 rfl rfl ?_
          refine X_getK hK fl_X12_7_13 hs_a0 ((hg3124 a0 13 0 1 hs_a0 (by decide)).trans ey0) kd28_70.2.2.2.2.2.2.2.2.2.1 ?_
          refine X_aloadn hK (i := 0) 0 kd28_70.2.2.2.2.2.2.2.2.2.2.1 rfl rfl ?_
          refine X_getK hK fl_X12_256_13 hs_a0 eq3125 kd28_70.2.2.2.2.2.2.2.2.2.2.2 ?_
          refine X_ialdK hK hs_y0 (by decide) (by omega) (by omega) ez3921 kd28_71.1 ?_
          have hl3925 : xv g y0 q3125 = z3921 := xv_e (j := q3125) ((hg3124 _ _ _ _ hs_y0 (by rw [xky_a (by decide)]; decide)).symm.trans ez3921) (by omega)
          refine X_bipush hK kd28_71.2.1 (by decide) ?_
          refine X_icmp_ne hK 52 (by omega) (by omega) kd28_71.2.2.1 (by decide) (fun c3926 => ?_) (fun c3926 => ?_)
          · refine X_aloadn hK (i := 0) 0 kd28_71.2.2.2.2.2.2.2.2.2.2.1 rfl rfl ?_
            have hS : xskp (xv g y0) sz tt = q3125 := v3906.symm.trans (xskp.z (fun q9 => by have h8 := q9.2; rw [hl3925] at h8; omega))
            refine X_aloadn hK (i := 0) 0 kd28_71.2.2.2.2.2.2.2.2.2.2.2 rfl rfl ?_
            refine X_getK hK fl_X12_256_13 hs_a0 eq3125 kd28_72.1 ?_
            refine X_puti hK fl_X12_259_13 hs_a0 (by decide) sl_13_21 (by omega) (by omega) kd28_72.2.1 (fun g3927 hg3927 => ?_)
            refine X_aloadn hK (i := 0) 0 kd28_72.2.2.1 rfl rfl ?_
            refine X_getK hK fl_X12_253_13 hs_a0 ((xs_k hg3927 (by decide)).trans ((hg3124 a0 13 0 19 hs_a0 (by decide)).trans esz)) kd28_72.2.2.2.1 ?_
            refine X_sipush hK kd28_72.2.2.2.2.1 (by decide) ?_
            have J3932 : ∀ (m3933 : sz ≤ 300 ∨ q3125 < 300), X K E 93 [(0, .ref a0)] [] S g3927 0 0 := by
              intro m3933
              refine X_aloadn hK (i := 0) 0 kd28_73.2.2.2.2.2.1 rfl rfl ?_
              refine X_getK hK fl_X12_256_13 hs_a0 ((xs_k hg3927 (by decide)).trans eq3125) kd28_73.2.2.2.2.2.2.1 ?_
              refine X_aloadn hK (i := 0) 0 kd28_73.2.2.2.2.2.2.2.1 rfl rfl ?_
              refine X_getK hK fl_X12_253_13 hs_a0 ((xs_k hg3927 (by decide)).trans ((hg3124 a0 13 0 19 hs_a0 (by decide)).trans esz)) kd28_73.2.2.2.2.2.2.2.2.1 ?_
              refine X_icmp_lt hK 110 (by omega) (by omega) kd28_73.2.2.2.2.2.2.2.2.2.1 (by decide) (fun c3934 => ?_) (fun c3934 => False.elim (by omega))
              refine X_aloadn hK (i := 0) 0 kd28_74.2.2.1 rfl rfl ?_
              have hT3 : q3125 < 300 := by omega
              clear m3933
              refine X_getK hK fl_X12_7_13 hs_a0 ((xs_k hg3927 (by decide)).trans ((hg3124 a0 13 0 1 hs_a0 (by decide)).trans ey0)) kd28_74.2.2.2.1 ?_
              refine X_aloadn hK (i := 0) 0 kd28_74.2.2.2.2.1 rfl rfl ?_
              refine X_getK hK fl_X12_256_13 hs_a0 ((xs_k hg3927 (by decide)).trans eq3125) kd28_74.2.2.2.2.2.1 ?_
              refine X_ialdK hK hs_y0 (by decide) (by omega) (by omega) ((xs_a hg3927 (xne hs_y0 hs_a0 (by decide))).trans ez3921) kd28_74.2.2.2.2.2.2.1 ?_
              have hl3935 : xv g y0 q3125 = z3921 := xv_e (j := q3125) (((xs_a hg3927 (xne hs_y0 hs_a0 (by decide))).trans (hg3124 _ _ _ _ hs_y0 (by rw [xky_a (by decide)]; decide))).symm.trans ((xs_a hg3927 (xne hs_y0 hs_a0 (by decide))).trans ez3921)) (by omega)
              refine X_istoren hK (i := 1) [(1, .int (iI z3921)), (0, .ref a0)] kd28_74.2.2.2.2.2.2.2.1 rfl (by decide) rfl ?_
              refine X_iloadn hK (i := 1) 0 kd28_74.2.2.2.2.2.2.2.2.1 rfl rfl ?_
              refine X_callS hK [.int (iI z3921)] [] lk_X12_265 (c_X12_isLetter _ _ _ _ _ S g3927 z3921 (by omega)) kd28_74.2.2.2.2.2.2.2.2.2.1 rfl rfl (by simp [Value.category]) (by decide) (by decide) (by decide) (by decide) (fun r3936 S3938 g3937 pr3936 qr3936 hg3937 => ?_)
              obtain ⟨rfl, rfl, z3939, rfl, lz3939, uz3939, k3940⟩ := pr3936
              refine X_st [.int (iI z3939)] rfl ?_
              have J3960 : ∀ (m3961 : xlk9 z3921), X K E 166 [(1, .int (iI z3921)), (0, .ref a0)] [] S g3927 0 0 := by
                intro m3961
                refine X_iloadn hK (i := 1) 0 kd28_76.2.2.2.2.2.2.2.2.1 rfl rfl ?_
                refine X_callS hK [.int (iI z3921)] [] lk_X12_265 (c_X12_isLetter _ _ _ _ _ S g3927 z3921 (by omega)) kd28_76.2.2.2.2.2.2.2.2.2.1 rfl rfl (by simp [Value.category]) (by decide) (by decide) (by decide) (by decide) (fun r3962 S3964 g3963 pr3962 qr3962 hg3963 => ?_)
                obtain ⟨rfl, rfl, z3965, rfl, lz3965, uz3965, k3966⟩ := pr3962
                refine X_st [.int (iI z3965)] rfl ?_
                refine X_istoren hK (i := 2) [(2, .int (iI z3965)), (1, .int (iI z3921)), (0, .ref a0)] kd28_76.2.2.2.2.2.2.2.2.2.2.1 rfl (by decide) rfl ?_
                refine X_iconst hK kd28_76.2.2.2.2.2.2.2.2.2.2.2 ?_
                refine X_istoren hK (i := 3) [(3, .int (iI 1)), (2, .int (iI z3965)), (1, .int (iI z3921)), (0, .ref a0)] kd28_77.1 rfl (by decide) rfl ?_
                refine X_aloadn hK (i := 0) 3 kd28_77.2.1 rfl rfl ?_
                refine X_lconstE hK (a := 0) (by decide +kernel) kd28_77.2.2.1 ?_
                refine X_putl hK fl_X12_277_13 hs_a0 (by decide) sl_13_28 kd28_77.2.2.2.1 (fun g3967 hg3967 => ?_)
                refine X_aloadn hK (i := 0) 3 kd28_77.2.2.2.2.1 rfl rfl ?_
                refine X_iconst hK kd28_77.2.2.2.2.2.1 ?_
                refine X_puti hK fl_X12_281_13 hs_a0 (by decide) sl_13_23 (by omega) (by omega) kd28_77.2.2.2.2.2.2.1 (fun g3968 hg3968 => ?_)
                have P4566 : ∀ (nP4566 : Nat) (g4468 : xG) (_ : xM [(13, 20), (13, 23), (13, 28)] S g3968 g4468) (z4467 : Int) (_ : 0 ≤ z4467) (_ : z4467 ≤ 1) (q4469 : Int) (_ : 0 ≤ q4469) (_ : q4469 ≤ 420) (_ : g4468 a0 20 = .int (iI q4469)) (q4470 : Int) (_ : 0 ≤ q4470) (_ : q4470 ≤ 82214) (_ : g4468 a0 23 = .int (iI q4470)) (_ : xnen (xv g y0) sz q4469 = xnen (xv g y0) sz q3125) (_ : q3125 ≤ q4469 ∧ q4469 ≤ sz) (_ : ∀ i, q3125 ≤ i → i < q4469 → xch9 ((xv g y0) i)) (_ : (z4467 = 1 ↔ ∀ i, 0 ≤ i → i < q4469 - q3125 → ((97 ≤ (xv g y0) (q3125 + i) ∧ (xv g y0) (q3125 + i) ≤ 122) ↔ z3965 = 1))) (_ : q4469 - q3125 ≤ 8 → g4468 a0 28 = .long (iL (xb27 (xv g y0) q3125 (q4469 - q3125).toNat))) (_ : q4469 - q3125 ≤ 4 → q4470 = xnu (xv g y0) q3125 (q4469 - q3125).toNat) (_ : (q4469 - q3125 ≤ 3 → q4470 ≤ 8214) ∧ (q4469 - q3125 ≤ 2 → q4470 ≤ 814) ∧ (q4469 - q3125 ≤ 1 → q4470 ≤ 74) ∧ (q4469 - q3125 ≤ 0 → q4470 = 0)) (_ : 420 - q4469 < (nP4566 : Int)), X K E 183 [(3, .int (iI z4467)), (2, .int (iI z3965)), (1, .int (iI z3921)), (0, .ref a0)] [] S g4468 0 0 := by
                  intro nP4566
                  induction nP4566 with
                  | zero => intro g4468 hg4468 z4467 lz4467 uz4467 q4469 lq4469 uq4469 eq4469 q4470 lq4470 uq4470 eq4470 v4567 v4568 v4569 v4570 v4571 v4572 v4573 mP4566; exact False.elim (by omega)
                  | succ nP4566 ihP4566 =>
                    intro g4468 hg4468 z4467 lz4467 uz4467 q4469 lq4469 uq4469 eq4469 q4470 lq4470 uq4470 eq4470 v4567 v4568 v4569 v4570 v4571 v4572 v4573 mP4566
                    refine X_aloadn hK (i := 0) 3 kd28_77.2.2.2.2.2.2.2.1 rfl rfl ?_
                    refine X_aloadn hK (i := 0) 3 kd28_77.2.2.2.2.2.2.2.2.1 rfl rfl ?_
                    refine X_getK hK fl_X12_256_13 hs_a0 eq4469 kd28_77.2.2.2.2.2.2.2.2.2.1 ?_
                    refine X_callV hK [.int (iI q4469)] [] lk_X12_284 (c3_byteAt _ _ _ _ _ S g4468 a0 q4469 sz y0 hs_a0 (by omega) (by omega) ((hg4468 a0 13 0 19 hs_a0 (by decide)).trans ((xs_k hg3968 (by decide)).trans ((xs_k hg3967 (by decide)).trans ((xs_k hg3927 (by decide)).trans ((hg3124 a0 13 0 19 hs_a0 (by decide)).trans esz))))) ((hg4468 a0 13 0 1 hs_a0 (by decide)).trans ((xs_k hg3968 (by decide)).trans ((xs_k hg3967 (by decide)).trans ((xs_k hg3927 (by decide)).trans ((hg3124 a0 13 0 1 hs_a0 (by decide)).trans ey0))))) hs_y0) hs_a0 ⟨by decide, rfl⟩ kd28_77.2.2.2.2.2.2.2.2.2.2.1 rfl rfl (by simp [Value.category]) (by decide) (by decide) (by decide) (by decide) (fun r4574 S4576 g4575 pr4574 qr4574 hg4575 => ?_)
                    obtain ⟨rfl, rfl, z4577, rfl, lz4577, uz4577, k4578, k4579⟩ := pr4574
                    refine X_st [.int (iI z4577)] rfl ?_
                    refine X_callS hK [.int (iI z4577)] [] lk_X12_265 (c_X12_isLetter _ _ _ _ _ S g4468 z4577 (by omega)) kd28_77.2.2.2.2.2.2.2.2.2.2.2 rfl rfl (by simp [Value.category]) (by decide) (by decide) (by decide) (by decide) (fun r4580 S4582 g4581 pr4580 qr4580 hg4581 => ?_)
                    obtain ⟨rfl, rfl, z4583, rfl, lz4583, uz4583, k4584⟩ := pr4580
                    refine X_st [.int (iI z4583)] rfl ?_
                    have J4610 : ∀ (m4611 : q4469 < sz ∧ xlk9 (xv g4468 y0 q4469)), X K E 211 [(3, .int (iI z4467)), (2, .int (iI z3965)), (1, .int (iI z3921)), (0, .ref a0)] [] S g4468 0 0 := by
                      intro m4611
                      refine X_aloadn hK (i := 0) 3 kd28_78.2.2.2.2.2.2.2.1 rfl rfl ?_
                      refine X_getK hK fl_X12_7_13 hs_a0 ((hg4468 a0 13 0 1 hs_a0 (by decide)).trans ((xs_k hg3968 (by decide)).trans ((xs_k hg3967 (by decide)).trans ((xs_k hg3927 (by decide)).trans ((hg3124 a0 13 0 1 hs_a0 (by decide)).trans ey0))))) kd28_78.2.2.2.2.2.2.2.2.1 ?_
                      refine X_aloadn hK (i := 0) 3 kd28_78.2.2.2.2.2.2.2.2.2.1 rfl rfl ?_
                      refine X_getK hK fl_X12_256_13 hs_a0 eq4469 kd28_78.2.2.2.2.2.2.2.2.2.2.1 ?_
                      refine X_iald hK hs_y0 (by decide) sl_14100 (by omega) (by omega) kd28_78.2.2.2.2.2.2.2.2.2.2.2 (fun z4612 ez4612 lz4612 uz4612 => ?_)
                      have hl4613 : xv g y0 q4469 = z4612 := xv_e (j := q4469) ((((((hg4468 _ _ _ _ hs_y0 (by rw [xky_a (by decide)]; decide)).trans (xs_a hg3968 (xne hs_y0 hs_a0 (by decide)))).trans (xs_a hg3967 (xne hs_y0 hs_a0 (by decide)))).trans (xs_a hg3927 (xne hs_y0 hs_a0 (by decide)))).trans (hg3124 _ _ _ _ hs_y0 (by rw [xky_a (by decide)]; decide))).symm.trans ez4612) (by omega)
                      have hc4614 : xlk9 z4612 := by have h9 := m4611.2; rw [xv_e (j := q4469) ez4612 (by omega)] at h9; exact h9
                      have bhc4614 := xlk9.b hc4614
                      refine X_istore hK (i := 4) [(4, .int (iI z4612)), (3, .int (iI z4467)), (2, .int (iI z3965)), (1, .int (iI z3921)), (0, .ref a0)] kd28_79.1 (by decide) rfl ?_
                      refine X_iloadn hK (i := 3) 1 kd28_79.2.1 rfl rfl ?_
                      have J4623 : ∀ (z4622 : Int) (lz4622 : 0 ≤ z4622) (uz4622 : z4622 ≤ 1) (m4624 : xgd9 z4622 z4467 z4612 z3965), X K E 240 [(4, .int (iI z4612)), (3, .int (iI z4467)), (2, .int (iI z3965)), (1, .int (iI z3921)), (0, .ref a0)] [.int (iI z4622)] S g4468 0 0 := by
                        intro z4622 lz4622 uz4622 m4624
                        refine X_istoren hK (i := 3) [(3, .int (iI z4622)), (4, .int (iI z4612)), (2, .int (iI z3965)), (1, .int (iI z3921)), (0, .ref a0)] kd28_79.2.2.2.2.2.2.2.2.2.2.1 rfl (by decide) rfl ?_
                        refine X_aloadn hK (i := 0) 4 kd28_79.2.2.2.2.2.2.2.2.2.2.2 rfl rfl ?_
                        refine X_getK hK fl_X12_256_13 hs_a0 eq4469 kd28_80.1 ?_
                        refine X_aloadn hK (i := 0) 4 kd28_80.2.1 rfl rfl ?_
                        refine X_getK hK fl_X12_259_13 hs_a0 ((hg4468 a0 13 0 21 hs_a0 (by decide)).trans ((xs_k hg3968 (by decide)).trans ((xs_k hg3967 (by decide)).trans (xs_s hg3927)))) kd28_80.2.2.1 ?_
                        refine X_isub hK kd28_80.2.2.2.1 ?_
                        refine X_bipush hK kd28_80.2.2.2.2.1 (by decide) ?_
                        have J4628 : ∀ (g4629 : xG) (hg4629 : xM [(13, 28)] S g4468 g4629) (m4630 : q4469 - q3125 < 8 → g4629 a0 28 = .long (iL (xb27 (xv g y0) q3125 (q4469 + 1 - q3125).toNat))), X K E 275 [(3, .int (iI z4622)), (4, .int (iI z4612)), (2, .int (iI z3965)), (1, .int (iI z3921)), (0, .ref a0)] [] S g4629 0 0 := by
                          intro g4629 hg4629 m4630
                          refine X_aloadn hK (i := 0) 4 kd28_81.2.2.2.2.2.1 rfl rfl ?_
                          refine X_getK hK fl_X12_256_13 hs_a0 ((hg4629 a0 13 0 20 hs_a0 (by decide)).trans eq4469) kd28_81.2.2.2.2.2.2.1 ?_
                          refine X_aloadn hK (i := 0) 4 kd28_81.2.2.2.2.2.2.2.1 rfl rfl ?_
                          refine X_getK hK fl_X12_259_13 hs_a0 ((hg4629 a0 13 0 21 hs_a0 (by decide)).trans ((hg4468 a0 13 0 21 hs_a0 (by decide)).trans ((xs_k hg3968 (by decide)).trans ((xs_k hg3967 (by decide)).trans (xs_s hg3927))))) kd28_81.2.2.2.2.2.2.2.2.1 ?_
                          refine X_isub hK kd28_81.2.2.2.2.2.2.2.2.2.1 ?_
                          refine X_iconst hK kd28_81.2.2.2.2.2.2.2.2.2.2.1 ?_
                          have J4633 : ∀ (g4634 : xG) (hg4634 : xM [(13, 23)] S g4629 g4634) (m4635 : ∃ z9 : Int, g4634 a0 23 = .int (iI z9) ∧ (0 ≤ z9 ∧ z9 ≤ 82214) ∧ (q4469 + 1 - q3125 ≤ 4 → z9 = xnu (xv g y0) q3125 (q4469 + 1 - q3125).toNat) ∧ ((q4469 + 1 - q3125 ≤ 3 → z9 ≤ 8214) ∧ (q4469 + 1 - q3125 ≤ 2 → z9 ≤ 814) ∧ (q4469 + 1 - q3125 ≤ 1 → z9 ≤ 74))), X K E 305 [(3, .int (iI z4622)), (4, .int (iI z4612)), (2, .int (iI z3965)), (1, .int (iI z3921)), (0, .ref a0)] [] S g4634 0 0 := by
                            intro g4634 hg4634 m4635
                            refine X_aloadn hK (i := 0) 4 kd28_82.2.2.2.2.2.2.2.2.2.2.1 rfl rfl ?_
                            obtain ⟨n4636, en4636, ln4636, xn4636, rn4636⟩ := m4635
                            refine X_dup hK kd28_82.2.2.2.2.2.2.2.2.2.2.2 rfl ?_
                            refine X_getK hK fl_X12_256_13 hs_a0 ((hg4634 a0 13 0 20 hs_a0 (by decide)).trans ((hg4629 a0 13 0 20 hs_a0 (by decide)).trans eq4469)) kd28_83.1 ?_
                            refine X_iconst hK kd28_83.2.1 ?_
                            refine X_iadd hK kd28_83.2.2.1 ?_
                            refine X_puti hK fl_X12_256_13 hs_a0 (by decide) sl_13_20 (by omega) (by omega) kd28_83.2.2.2.1 (fun g4637 hg4637 => ?_)
                            refine X_goto hK 183 kd28_83.2.2.2.2.1 (by decide) ?_
                            refine X_lv [(3, .int (iI z4622)), (2, .int (iI z3965)), (1, .int (iI z3921)), (0, .ref a0)] [0, 2, 3, 4] rfl ?_
                            exact ihP4566  g4637 (xM_up (xM.tr (xM.tr (xM.tr xM.rf xLe.rf hg4468 (by decide)) xLe.rf hg4629 (by decide)) xLe.rf hg4634 (by decide)) hg4637 hs_a0 (by decide) (by decide)) z4622 (by omega) (by omega) (q4469 + 1) (by omega) (by omega) (xs_s hg4637) n4636 (by omega) (by omega) ((xs_k hg4637 (by decide)).trans en4636) ((xnen.s ⟨by omega, (by rw [hl4613]; exact hc4614)⟩).symm.trans v4567) (by omega) (fun i9 q1 q2 => by by_cases e9 : i9 = q4469; (rw [e9, hl4613]; exact hc4614); exact v4569 i9 q1 (by omega)) (xsm.s (by omega) hl4613 v4570 m4624) (fun h9 => ((xs_k hg4637 (by decide)).trans ((hg4634 a0 13 0 28 hs_a0 (by decide)).trans (m4630 (by omega))))) xn4636 (by omega) (by omega)
                          refine X_icmp_ge hK 305 (by omega) (by omega) kd28_81.2.2.2.2.2.2.2.2.2.2.2 (by decide) (fun c4631 => ?_) (fun c4631 => ?_)
                          · exact J4633 g4629 xM.rf ⟨q4470, ((hg4629 a0 13 0 23 hs_a0 (by decide)).trans eq4470), by omega, (fun h9 => by omega), by omega⟩
                          · refine X_aloadn hK (i := 0) 4 kd28_82.1 rfl rfl ?_
                            refine X_bipush hK kd28_82.2.1 (by decide) ?_
                            refine X_aloadn hK (i := 0) 4 kd28_82.2.2.1 rfl rfl ?_
                            refine X_getK hK fl_X12_281_13 hs_a0 ((hg4629 a0 13 0 23 hs_a0 (by decide)).trans eq4470) kd28_82.2.2.2.1 ?_
                            refine X_imul hK kd28_82.2.2.2.2.1 ?_
                            refine X_iload hK (i := 4) 1 kd28_82.2.2.2.2.2.1 rfl ?_
                            refine X_iadd hK kd28_82.2.2.2.2.2.2.1 ?_
                            refine X_bipush hK kd28_82.2.2.2.2.2.2.2.1 (by decide) ?_
                            refine X_isub hK kd28_82.2.2.2.2.2.2.2.2.1 ?_
                            refine X_puti hK fl_X12_281_13 hs_a0 (by decide) sl_13_23 (by omega) (by omega) kd28_82.2.2.2.2.2.2.2.2.2.1 (fun g4638 hg4638 => ?_)
                            exact J4633 g4638 (xM_up xM.rf hg4638 hs_a0 (by decide) (by decide)) ⟨(((10 * q4470) + z4612) - 48), (xs_s hg4638), by omega, (fun h9 => by rw [xnu.s (by omega) (by omega), hl4613, ← v4572 (by omega)]), by omega⟩
                        refine X_icmp_ge hK 275 (by omega) (by omega) kd28_80.2.2.2.2.2.1 (by decide) (fun c4625 => ?_) (fun c4625 => ?_)
                        · exact J4628 g4468 xM.rf (fun h9 => by omega)
                        · refine X_aloadn hK (i := 0) 4 kd28_80.2.2.2.2.2.2.1 rfl rfl ?_
                          refine X_ldc2E hK (a := 27) (by decide +kernel) kd28_80.2.2.2.2.2.2.2.1 m_29_6 ?_
                          refine X_aloadn hK (i := 0) 4 kd28_80.2.2.2.2.2.2.2.2.1 rfl rfl ?_
                          refine X_getl hK fl_X12_277_13 hs_a0 sl_13_28 kd28_80.2.2.2.2.2.2.2.2.2.1 (fun y4639 ey4639 => ?_)
                          refine X_lmulE hK kd28_80.2.2.2.2.2.2.2.2.2.2.1 ?_
                          refine X_iload hK (i := 4) 1 kd28_80.2.2.2.2.2.2.2.2.2.2.2 rfl ?_
                          refine X_i2lE hK (by omega) kd28_81.1 ?_
                          refine X_laddE hK kd28_81.2.1 ?_
                          refine X_ldc2E hK (a := 96) (by decide +kernel) kd28_81.2.2.1 m_29_7 ?_
                          refine X_lsubE hK kd28_81.2.2.2.1 ?_
                          refine X_putl hK fl_X12_277_13 hs_a0 (by decide) sl_13_28 kd28_81.2.2.2.2.1 (fun g4640 hg4640 => ?_)
                          exact J4628 g4640 (xM_up xM.rf hg4640 hs_a0 (by decide) (by decide)) (fun h9 => (xs_s hg4640).trans (by rw [xb27.s (by omega), hl4613, show y4639 = iL (xb27 (xv g y0) q3125 (q4469 - q3125).toNat) from xlinj9 ey4639 (v4571 (by omega)), iL_mul, iL_add, iL_sub]; congr 2; omega))
                      refine X_if_eq hK 239 (by omega) kd28_79.2.2.1 (by decide) (fun c4615 => ?_) (fun c4615 => ?_)
                      · refine X_iconst hK kd28_79.2.2.2.2.2.2.2.2.2.1 ?_
                        exact J4623 0 (by omega) (by omega) (xgd9.a (by omega) (by omega))
                      · refine X_iload hK (i := 4) 0 kd28_79.2.2.2.1 rfl ?_
                        refine X_callS hK [.int (iI z4612)] [] lk_X12_265 (c_X12_isLetter _ _ _ _ _ S g4468 z4612 (by omega)) kd28_79.2.2.2.2.1 rfl rfl (by simp [Value.category]) (by decide) (by decide) (by decide) (by decide) (fun r4641 S4643 g4642 pr4641 qr4641 hg4642 => ?_)
                        obtain ⟨rfl, rfl, z4644, rfl, lz4644, uz4644, k4645⟩ := pr4641
                        refine X_st [.int (iI z4644)] rfl ?_
                        refine X_iloadn hK (i := 2) 2 kd28_79.2.2.2.2.2.1 rfl rfl ?_
                        refine X_icmp_ne hK 239 (by omega) (by omega) kd28_79.2.2.2.2.2.2.1 (by decide) (fun c4646 => ?_) (fun c4646 => ?_)
                        · refine X_iconst hK kd28_79.2.2.2.2.2.2.2.2.2.1 ?_
                          exact J4623 0 (by omega) (by omega) (xgd9.c rfl k4645 (by omega) (by omega) (by omega))
                        · refine X_iconst hK kd28_79.2.2.2.2.2.2.2.1 ?_
                          refine X_goto hK 240 kd28_79.2.2.2.2.2.2.2.2.1 (by decide) ?_
                          exact J4623 1 (by omega) (by omega) (xgd9.b rfl (by omega) (by omega) k4645 (by omega))
                    refine X_if_ne hK 211 (by omega) kd28_78.1 (by decide) (fun c4585 => ?_) (fun c4585 => ?_)
                    · exact J4610 (by have h9 := k4579; unfold xlk9; omega)
                    · refine X_aloadn hK (i := 0) 3 kd28_78.2.1 rfl rfl ?_
                      refine X_aloadn hK (i := 0) 3 kd28_78.2.2.1 rfl rfl ?_
                      refine X_getK hK fl_X12_256_13 hs_a0 eq4469 kd28_78.2.2.2.1 ?_
                      refine X_callV hK [.int (iI q4469)] [] lk_X12_284 (c3_byteAt _ _ _ _ _ S g4468 a0 q4469 sz y0 hs_a0 (by omega) (by omega) ((hg4468 a0 13 0 19 hs_a0 (by decide)).trans ((xs_k hg3968 (by decide)).trans ((xs_k hg3967 (by decide)).trans ((xs_k hg3927 (by decide)).trans ((hg3124 a0 13 0 19 hs_a0 (by decide)).trans esz))))) ((hg4468 a0 13 0 1 hs_a0 (by decide)).trans ((xs_k hg3968 (by decide)).trans ((xs_k hg3967 (by decide)).trans ((xs_k hg3927 (by decide)).trans ((hg3124 a0 13 0 1 hs_a0 (by decide)).trans ey0))))) hs_y0) hs_a0 ⟨by decide, rfl⟩ kd28_78.2.2.2.2.1 rfl rfl (by simp [Value.category]) (by decide) (by decide) (by decide) (by decide) (fun r4647 S4649 g4648 pr4647 qr4647 hg4648 => ?_)
                      obtain ⟨rfl, rfl, z4650, rfl, lz4650, uz4650, k4651, k4652⟩ := pr4647
                      refine X_st [.int (iI z4650)] rfl ?_
                      refine X_callS hK [.int (iI z4650)] [] lk_X12_268 (c_X12_isDigit _ _ _ _ _ S g4468 z4650 (by omega)) kd28_78.2.2.2.2.2.1 rfl rfl (by simp [Value.category]) (by decide) (by decide) (by decide) (by decide) (fun r4653 S4655 g4654 pr4653 qr4653 hg4654 => ?_)
                      obtain ⟨rfl, rfl, z4656, rfl, lz4656, uz4656, k4657⟩ := pr4653
                      refine X_st [.int (iI z4656)] rfl ?_
                      refine X_if_eq hK 318 (by omega) kd28_78.2.2.2.2.2.2.1 (by decide) (fun c4658 => ?_) (fun c4658 => ?_)
                      · refine X_aloadn hK (i := 0) 3 kd28_83.2.2.2.2.2.1 rfl rfl ?_
                        refine X_wt (fun hWy4659 => ?_)
                        obtain ⟨y4659, ey4659⟩ : ∃ y9 : Int64, g4468 a0 28 = .long y9 := by have h9 := hWy4659 _ _ _ hs_a0 28 (Or.inl (by decide)); rw [sl_13_28] at h9; exact h9
                        refine X_iloadn hK (i := 3) 0 kd28_83.2.2.2.2.2.2.1 rfl rfl ?_
                        refine X_if_eq hK 345 (by omega) kd28_83.2.2.2.2.2.2.2.1 (by decide) (fun c4660 => ?_) (fun c4660 => ?_)
                        · refine X_iconst hK kd28_84.2.2.2.2.2.2.2.1 ?_
                          refine X_goto hK 358 kd28_84.2.2.2.2.2.2.2.2.1 (by decide) ?_
                          refine X_puti hK fl_X12_262_13 hs_a0 (by decide) sl_13_22 (by omega) (by omega) kd28_85.2.2.1 (fun g4661 hg4661 => ?_)
                          have hkgn4662 : (1 : Int) = if z4467 ≠ 1 ∨ (if z3965 = 1 then 8 else 4) < q4469 - q3125 then 1 else if z3965 = 1 then 2 else 3 := (by rw [if_pos (Or.inl (by omega))])
                          have hxgn4662 : ¬ (q4469 < sz ∧ xlk9 (xv g y0 q4469)) := xhx9 (by have h8 := k4579; rw [(Eq.trans (Eq.trans (Eq.trans (Eq.trans (xv_m hg4468 hs_y0 (by decide) (by decide)) (xv_a hg3968 (xne hs_y0 hs_a0 (by decide)))) (xv_a hg3967 (xne hs_y0 hs_a0 (by decide)))) (xv_a hg3927 (xne hs_y0 hs_a0 (by decide)))) (xv_m hg3124 hs_y0 (by decide) (by decide)))] at h8; exact h8) (by have h8 := k4652; rw [(Eq.trans (Eq.trans (Eq.trans (Eq.trans (xv_m hg4468 hs_y0 (by decide) (by decide)) (xv_a hg3968 (xne hs_y0 hs_a0 (by decide)))) (xv_a hg3967 (xne hs_y0 hs_a0 (by decide)))) (xv_a hg3927 (xne hs_y0 hs_a0 (by decide)))) (xv_m hg3124 hs_y0 (by decide) (by decide)))] at h8; exact h8) k4584 k4657 (by omega) (by omega)
                          have gn4662 := xgoN (f := xv g y0) (n := sz) (T := q3125) (e := q4469) (l := z3965) (gd := z4467) (kind := 1) (num := q4470) (sign := ns0) (word := y4659) (by omega) (by rw [hl3935]; exact m3961) (by rw [hl3935]; exact k3966) v4568 v4567 hxgn4662 v4569 v4570 (fun h9 => xlinj9 ey4659 (v4571 h9)) v4572 hkgn4662
                          have pgn4662 := gn4662.1
                          rw [← hS] at gn4662
                          exact hret _ _ _ _ _ _ kd28_85.2.2.2.1 ⟨rfl, rfl, ⟨1, q4470, ns0, y4659, (xs_s hg4661), ((xs_k hg4661 (by decide)).trans eq4470), ((xs_k hg4661 (by decide)).trans ((hg4468 a0 13 0 24 hs_a0 (by decide)).trans ((xs_k hg3968 (by decide)).trans ((xs_k hg3967 (by decide)).trans ((xs_k hg3927 (by decide)).trans ((hg3124 a0 13 0 24 hs_a0 (by decide)).trans ens0)))))), ((xs_k hg4661 (by decide)).trans ey4659), (by omega), (((xs_k hg4661 (by decide)).trans ((hg4468 a0 13 0 21 hs_a0 (by decide)).trans ((xs_k hg3968 (by decide)).trans ((xs_k hg3967 (by decide)).trans (xs_s hg3927))))).trans (by rw [hS, pgn4662])), (((xs_k hg4661 (by decide)).trans eq4469).trans (by rw [gn4662.2.1])), gn4662.2.2⟩⟩ (Nat.le_refl _) (Nat.le_refl _)
                        · refine X_aloadn hK (i := 0) 3 kd28_83.2.2.2.2.2.2.2.2.1 rfl rfl ?_
                          refine X_getK hK fl_X12_256_13 hs_a0 eq4469 kd28_83.2.2.2.2.2.2.2.2.2.1 ?_
                          refine X_aloadn hK (i := 0) 3 kd28_83.2.2.2.2.2.2.2.2.2.2.1 rfl rfl ?_
                          refine X_getK hK fl_X12_259_13 hs_a0 ((hg4468 a0 13 0 21 hs_a0 (by decide)).trans ((xs_k hg3968 (by decide)).trans ((xs_k hg3967 (by decide)).trans (xs_s hg3927)))) kd28_83.2.2.2.2.2.2.2.2.2.2.2 ?_
                          refine X_isub hK kd28_84.1 ?_
                          refine X_iloadn hK (i := 2) 1 kd28_84.2.1 rfl rfl ?_
                          refine X_if_eq hK 341 (by omega) kd28_84.2.2.1 (by decide) (fun c4663 => ?_) (fun c4663 => ?_)
                          · refine X_iconst hK kd28_84.2.2.2.2.2.1 ?_
                            refine X_icmp_le hK 349 (by omega) (by omega) kd28_84.2.2.2.2.2.2.1 (by decide) (fun c4664 => ?_) (fun c4664 => ?_)
                            · refine X_iloadn hK (i := 2) 1 kd28_84.2.2.2.2.2.2.2.2.2.1 rfl rfl ?_
                              refine X_if_eq hK 357 (by omega) kd28_84.2.2.2.2.2.2.2.2.2.2.1 (by decide) (fun c4665 => ?_) (fun c4665 => False.elim (by omega))
                              refine X_iconst hK kd28_85.2.1 ?_
                              refine X_puti hK fl_X12_262_13 hs_a0 (by decide) sl_13_22 (by omega) (by omega) kd28_85.2.2.1 (fun g4666 hg4666 => ?_)
                              have hkgn4667 : (3 : Int) = if z4467 ≠ 1 ∨ (if z3965 = 1 then 8 else 4) < q4469 - q3125 then 1 else if z3965 = 1 then 2 else 3 := (by rw [if_neg (fun q9 => by rcases q9 with q9 | q9; exact absurd q9 (by omega); rw [if_neg (by omega)] at q9; omega), if_neg (by omega)])
                              have hxgn4667 : ¬ (q4469 < sz ∧ xlk9 (xv g y0 q4469)) := xhx9 (by have h8 := k4579; rw [(Eq.trans (Eq.trans (Eq.trans (Eq.trans (xv_m hg4468 hs_y0 (by decide) (by decide)) (xv_a hg3968 (xne hs_y0 hs_a0 (by decide)))) (xv_a hg3967 (xne hs_y0 hs_a0 (by decide)))) (xv_a hg3927 (xne hs_y0 hs_a0 (by decide)))) (xv_m hg3124 hs_y0 (by decide) (by decide)))] at h8; exact h8) (by have h8 := k4652; rw [(Eq.trans (Eq.trans (Eq.trans (Eq.trans (xv_m hg4468 hs_y0 (by decide) (by decide)) (xv_a hg3968 (xne hs_y0 hs_a0 (by decide)))) (xv_a hg3967 (xne hs_y0 hs_a0 (by decide)))) (xv_a hg3927 (xne hs_y0 hs_a0 (by decide)))) (xv_m hg3124 hs_y0 (by decide) (by decide)))] at h8; exact h8) k4584 k4657 (by omega) (by omega)
                              have gn4667 := xgoN (f := xv g y0) (n := sz) (T := q3125) (e := q4469) (l := z3965) (gd := z4467) (kind := 3) (num := q4470) (sign := ns0) (word := y4659) (by omega) (by rw [hl3935]; exact m3961) (by rw [hl3935]; exact k3966) v4568 v4567 hxgn4667 v4569 v4570 (fun h9 => xlinj9 ey4659 (v4571 h9)) v4572 hkgn4667
                              have pgn4667 := gn4667.1
                              rw [← hS] at gn4667
                              exact hret _ _ _ _ _ _ kd28_85.2.2.2.1 ⟨rfl, rfl, ⟨3, q4470, ns0, y4659, (xs_s hg4666), ((xs_k hg4666 (by decide)).trans eq4470), ((xs_k hg4666 (by decide)).trans ((hg4468 a0 13 0 24 hs_a0 (by decide)).trans ((xs_k hg3968 (by decide)).trans ((xs_k hg3967 (by decide)).trans ((xs_k hg3927 (by decide)).trans ((hg3124 a0 13 0 24 hs_a0 (by decide)).trans ens0)))))), ((xs_k hg4666 (by decide)).trans ey4659), (by omega), (((xs_k hg4666 (by decide)).trans ((hg4468 a0 13 0 21 hs_a0 (by decide)).trans ((xs_k hg3968 (by decide)).trans ((xs_k hg3967 (by decide)).trans (xs_s hg3927))))).trans (by rw [hS, pgn4667])), (((xs_k hg4666 (by decide)).trans eq4469).trans (by rw [gn4667.2.1])), gn4667.2.2⟩⟩ (Nat.le_refl _) (Nat.le_refl _)
                            · refine X_iconst hK kd28_84.2.2.2.2.2.2.2.1 ?_
                              refine X_goto hK 358 kd28_84.2.2.2.2.2.2.2.2.1 (by decide) ?_
                              refine X_puti hK fl_X12_262_13 hs_a0 (by decide) sl_13_22 (by omega) (by omega) kd28_85.2.2.1 (fun g4668 hg4668 => ?_)
                              have hkgn4669 : (1 : Int) = if z4467 ≠ 1 ∨ (if z3965 = 1 then 8 else 4) < q4469 - q3125 then 1 else if z3965 = 1 then 2 else 3 := (by rw [if_pos (Or.inr (by rw [if_neg (by omega)]; omega))])
                              have hxgn4669 : ¬ (q4469 < sz ∧ xlk9 (xv g y0 q4469)) := xhx9 (by have h8 := k4579; rw [(Eq.trans (Eq.trans (Eq.trans (Eq.trans (xv_m hg4468 hs_y0 (by decide) (by decide)) (xv_a hg3968 (xne hs_y0 hs_a0 (by decide)))) (xv_a hg3967 (xne hs_y0 hs_a0 (by decide)))) (xv_a hg3927 (xne hs_y0 hs_a0 (by decide)))) (xv_m hg3124 hs_y0 (by decide) (by decide)))] at h8; exact h8) (by have h8 := k4652; rw [(Eq.trans (Eq.trans (Eq.trans (Eq.trans (xv_m hg4468 hs_y0 (by decide) (by decide)) (xv_a hg3968 (xne hs_y0 hs_a0 (by decide)))) (xv_a hg3967 (xne hs_y0 hs_a0 (by decide)))) (xv_a hg3927 (xne hs_y0 hs_a0 (by decide)))) (xv_m hg3124 hs_y0 (by decide) (by decide)))] at h8; exact h8) k4584 k4657 (by omega) (by omega)
                              have gn4669 := xgoN (f := xv g y0) (n := sz) (T := q3125) (e := q4469) (l := z3965) (gd := z4467) (kind := 1) (num := q4470) (sign := ns0) (word := y4659) (by omega) (by rw [hl3935]; exact m3961) (by rw [hl3935]; exact k3966) v4568 v4567 hxgn4669 v4569 v4570 (fun h9 => xlinj9 ey4659 (v4571 h9)) v4572 hkgn4669
                              have pgn4669 := gn4669.1
                              rw [← hS] at gn4669
                              exact hret _ _ _ _ _ _ kd28_85.2.2.2.1 ⟨rfl, rfl, ⟨1, q4470, ns0, y4659, (xs_s hg4668), ((xs_k hg4668 (by decide)).trans eq4470), ((xs_k hg4668 (by decide)).trans ((hg4468 a0 13 0 24 hs_a0 (by decide)).trans ((xs_k hg3968 (by decide)).trans ((xs_k hg3967 (by decide)).trans ((xs_k hg3927 (by decide)).trans ((hg3124 a0 13 0 24 hs_a0 (by decide)).trans ens0)))))), ((xs_k hg4668 (by decide)).trans ey4659), (by omega), (((xs_k hg4668 (by decide)).trans ((hg4468 a0 13 0 21 hs_a0 (by decide)).trans ((xs_k hg3968 (by decide)).trans ((xs_k hg3967 (by decide)).trans (xs_s hg3927))))).trans (by rw [hS, pgn4669])), (((xs_k hg4668 (by decide)).trans eq4469).trans (by rw [gn4669.2.1])), gn4669.2.2⟩⟩ (Nat.le_refl _) (Nat.le_refl _)
                          · refine X_bipush hK kd28_84.2.2.2.1 (by decide) ?_
                            refine X_goto hK 342 kd28_84.2.2.2.2.1 (by decide) ?_
                            refine X_icmp_le hK 349 (by omega) (by omega) kd28_84.2.2.2.2.2.2.1 (by decide) (fun c4670 => ?_) (fun c4670 => ?_)
                            · refine X_iloadn hK (i := 2) 1 kd28_84.2.2.2.2.2.2.2.2.2.1 rfl rfl ?_
                              refine X_if_eq hK 357 (by omega) kd28_84.2.2.2.2.2.2.2.2.2.2.1 (by decide) (fun c4671 => False.elim (by omega)) (fun c4671 => ?_)
                              refine X_iconst hK kd28_84.2.2.2.2.2.2.2.2.2.2.2 ?_
                              refine X_goto hK 358 kd28_85.1 (by decide) ?_
                              refine X_puti hK fl_X12_262_13 hs_a0 (by decide) sl_13_22 (by omega) (by omega) kd28_85.2.2.1 (fun g4672 hg4672 => ?_)
                              have hkgn4673 : (2 : Int) = if z4467 ≠ 1 ∨ (if z3965 = 1 then 8 else 4) < q4469 - q3125 then 1 else if z3965 = 1 then 2 else 3 := (by rw [if_neg (fun q9 => by rcases q9 with q9 | q9; exact absurd q9 (by omega); rw [if_pos (by omega)] at q9; omega), if_pos (by omega)])
                              have hxgn4673 : ¬ (q4469 < sz ∧ xlk9 (xv g y0 q4469)) := xhx9 (by have h8 := k4579; rw [(Eq.trans (Eq.trans (Eq.trans (Eq.trans (xv_m hg4468 hs_y0 (by decide) (by decide)) (xv_a hg3968 (xne hs_y0 hs_a0 (by decide)))) (xv_a hg3967 (xne hs_y0 hs_a0 (by decide)))) (xv_a hg3927 (xne hs_y0 hs_a0 (by decide)))) (xv_m hg3124 hs_y0 (by decide) (by decide)))] at h8; exact h8) (by have h8 := k4652; rw [(Eq.trans (Eq.trans (Eq.trans (Eq.trans (xv_m hg4468 hs_y0 (by decide) (by decide)) (xv_a hg3968 (xne hs_y0 hs_a0 (by decide)))) (xv_a hg3967 (xne hs_y0 hs_a0 (by decide)))) (xv_a hg3927 (xne hs_y0 hs_a0 (by decide)))) (xv_m hg3124 hs_y0 (by decide) (by decide)))] at h8; exact h8) k4584 k4657 (by omega) (by omega)
                              have gn4673 := xgoN (f := xv g y0) (n := sz) (T := q3125) (e := q4469) (l := z3965) (gd := z4467) (kind := 2) (num := q4470) (sign := ns0) (word := y4659) (by omega) (by rw [hl3935]; exact m3961) (by rw [hl3935]; exact k3966) v4568 v4567 hxgn4673 v4569 v4570 (fun h9 => xlinj9 ey4659 (v4571 h9)) v4572 hkgn4673
                              have pgn4673 := gn4673.1
                              rw [← hS] at gn4673
                              exact hret _ _ _ _ _ _ kd28_85.2.2.2.1 ⟨rfl, rfl, ⟨2, q4470, ns0, y4659, (xs_s hg4672), ((xs_k hg4672 (by decide)).trans eq4470), ((xs_k hg4672 (by decide)).trans ((hg4468 a0 13 0 24 hs_a0 (by decide)).trans ((xs_k hg3968 (by decide)).trans ((xs_k hg3967 (by decide)).trans ((xs_k hg3927 (by decide)).trans ((hg3124 a0 13 0 24 hs_a0 (by decide)).trans ens0)))))), ((xs_k hg4672 (by decide)).trans ey4659), (by omega), (((xs_k hg4672 (by decide)).trans ((hg4468 a0 13 0 21 hs_a0 (by decide)).trans ((xs_k hg3968 (by decide)).trans ((xs_k hg3967 (by decide)).trans (xs_s hg3927))))).trans (by rw [hS, pgn4673])), (((xs_k hg4672 (by decide)).trans eq4469).trans (by rw [gn4673.2.1])), gn4673.2.2⟩⟩ (Nat.le_refl _) (Nat.le_refl _)
                            · refine X_iconst hK kd28_84.2.2.2.2.2.2.2.1 ?_
                              refine X_goto hK 358 kd28_84.2.2.2.2.2.2.2.2.1 (by decide) ?_
                              refine X_puti hK fl_X12_262_13 hs_a0 (by decide) sl_13_22 (by omega) (by omega) kd28_85.2.2.1 (fun g4674 hg4674 => ?_)
                              have hkgn4675 : (1 : Int) = if z4467 ≠ 1 ∨ (if z3965 = 1 then 8 else 4) < q4469 - q3125 then 1 else if z3965 = 1 then 2 else 3 := (by rw [if_pos (Or.inr (by rw [if_pos (by omega)]; omega))])
                              have hxgn4675 : ¬ (q4469 < sz ∧ xlk9 (xv g y0 q4469)) := xhx9 (by have h8 := k4579; rw [(Eq.trans (Eq.trans (Eq.trans (Eq.trans (xv_m hg4468 hs_y0 (by decide) (by decide)) (xv_a hg3968 (xne hs_y0 hs_a0 (by decide)))) (xv_a hg3967 (xne hs_y0 hs_a0 (by decide)))) (xv_a hg3927 (xne hs_y0 hs_a0 (by decide)))) (xv_m hg3124 hs_y0 (by decide) (by decide)))] at h8; exact h8) (by have h8 := k4652; rw [(Eq.trans (Eq.trans (Eq.trans (Eq.trans (xv_m hg4468 hs_y0 (by decide) (by decide)) (xv_a hg3968 (xne hs_y0 hs_a0 (by decide)))) (xv_a hg3967 (xne hs_y0 hs_a0 (by decide)))) (xv_a hg3927 (xne hs_y0 hs_a0 (by decide)))) (xv_m hg3124 hs_y0 (by decide) (by decide)))] at h8; exact h8) k4584 k4657 (by omega) (by omega)
                              have gn4675 := xgoN (f := xv g y0) (n := sz) (T := q3125) (e := q4469) (l := z3965) (gd := z4467) (kind := 1) (num := q4470) (sign := ns0) (word := y4659) (by omega) (by rw [hl3935]; exact m3961) (by rw [hl3935]; exact k3966) v4568 v4567 hxgn4675 v4569 v4570 (fun h9 => xlinj9 ey4659 (v4571 h9)) v4572 hkgn4675
                              have pgn4675 := gn4675.1
                              rw [← hS] at gn4675
                              exact hret _ _ _ _ _ _ kd28_85.2.2.2.1 ⟨rfl, rfl, ⟨1, q4470, ns0, y4659, (xs_s hg4674), ((xs_k hg4674 (by decide)).trans eq4470), ((xs_k hg4674 (by decide)).trans ((hg4468 a0 13 0 24 hs_a0 (by decide)).trans ((xs_k hg3968 (by decide)).trans ((xs_k hg3967 (by decide)).trans ((xs_k hg3927 (by decide)).trans ((hg3124 a0 13 0 24 hs_a0 (by decide)).trans ens0)))))), ((xs_k hg4674 (by decide)).trans ey4659), (by omega), (((xs_k hg4674 (by decide)).trans ((hg4468 a0 13 0 21 hs_a0 (by decide)).trans ((xs_k hg3968 (by decide)).trans ((xs_k hg3967 (by decide)).trans (xs_s hg3927))))).trans (by rw [hS, pgn4675])), (((xs_k hg4674 (by decide)).trans eq4469).trans (by rw [gn4675.2.1])), gn4675.2.2⟩⟩ (Nat.le_refl _) (Nat.le_refl _)
                      · exact J4610 (by have h9 := k4652; unfold xlk9; omega)
                exact P4566 ((420 - q3125 : Int).toNat + 1) g3968 xM.rf 1 (by omega) (by omega) q3125 (by omega) (by omega) ((xs_k hg3968 (by decide)).trans ((xs_k hg3967 (by decide)).trans ((xs_k hg3927 (by decide)).trans eq3125))) 0 (by omega) (by omega) (xs_s hg3968) rfl (by omega) (fun i q1 q2 => by omega) ⟨fun _ i9 q1 q2 => by omega, fun _ => rfl⟩ (fun _ => by rw [Int.sub_self]; exact ((xs_k hg3968 (by decide)).trans (xs_s hg3967))) (fun _ => by rw [Int.sub_self]; rfl) (by omega) (by omega)
              refine X_if_ne hK 166 (by omega) kd28_74.2.2.2.2.2.2.2.2.2.2.1 (by decide) (fun c3941 => ?_) (fun c3941 => ?_)
              · exact J3960 (by unfold xlk9; omega)
              · refine X_iloadn hK (i := 1) 0 kd28_74.2.2.2.2.2.2.2.2.2.2.2 rfl rfl ?_
                refine X_callS hK [.int (iI z3921)] [] lk_X12_268 (c_X12_isDigit _ _ _ _ _ S g3927 z3921 (by omega)) kd28_75.1 rfl rfl (by simp [Value.category]) (by decide) (by decide) (by decide) (by decide) (fun r4676 S4678 g4677 pr4676 qr4676 hg4677 => ?_)
                obtain ⟨rfl, rfl, z4679, rfl, lz4679, uz4679, k4680⟩ := pr4676
                refine X_st [.int (iI z4679)] rfl ?_
                refine X_if_ne hK 166 (by omega) kd28_75.2.1 (by decide) (fun c4681 => ?_) (fun c4681 => ?_)
                · exact J3960 (by unfold xlk9; omega)
                · refine X_aloadn hK (i := 0) 1 kd28_75.2.2.1 rfl rfl ?_
                  refine X_iloadn hK (i := 1) 0 kd28_75.2.2.2.1 rfl rfl ?_
                  refine X_callS hK [.int (iI z3921)] [.ref a0] lk_X12_271 (c3_isMark _ _ _ _ _ S g3927 z3921 (by omega)) kd28_75.2.2.2.2.1 rfl rfl (by simp [Value.category]) (by decide) (by decide) (by decide) (by decide) (fun r4682 S4684 g4683 pr4682 qr4682 hg4683 => ?_)
                  obtain ⟨rfl, rfl, z4685, rfl, lz4685, uz4685, k4686⟩ := pr4682
                  refine X_st [.int (iI z4685), .ref a0] rfl ?_
                  refine X_if_eq hK 146 (by omega) kd28_75.2.2.2.2.2.1 (by decide) (fun c4687 => ?_) (fun c4687 => ?_)
                  · refine X_iconst hK kd28_75.2.2.2.2.2.2.2.2.1 ?_
                    refine X_puti hK fl_X12_262_13 hs_a0 (by decide) sl_13_22 (by omega) (by omega) kd28_75.2.2.2.2.2.2.2.2.2.1 (fun g4688 hg4688 => ?_)
                    refine X_aloadn hK (i := 0) 1 kd28_75.2.2.2.2.2.2.2.2.2.2.1 rfl rfl ?_
                    refine X_iloadn hK (i := 1) 0 kd28_75.2.2.2.2.2.2.2.2.2.2.2 rfl rfl ?_
                    refine X_puti hK fl_X12_274_13 hs_a0 (by decide) sl_13_24 (by omega) (by omega) kd28_76.1 (fun g4689 hg4689 => ?_)
                    refine X_aloadn hK (i := 0) 1 kd28_76.2.1 rfl rfl ?_
                    refine X_dup hK kd28_76.2.2.1 rfl ?_
                    refine X_getK hK fl_X12_256_13 hs_a0 ((xs_k hg4689 (by decide)).trans ((xs_k hg4688 (by decide)).trans ((xs_k hg3927 (by decide)).trans eq3125))) kd28_76.2.2.2.1 ?_
                    refine X_iconst hK kd28_76.2.2.2.2.1 ?_
                    refine X_iadd hK kd28_76.2.2.2.2.2.1 ?_
                    refine X_puti hK fl_X12_256_13 hs_a0 (by decide) sl_13_20 (by omega) (by omega) kd28_76.2.2.2.2.2.2.1 (fun g4690 hg4690 => ?_)
                    exact hret _ _ _ _ _ _ kd28_76.2.2.2.2.2.2.2.1 ⟨rfl, rfl, ⟨1, nn0, z3921, y3909, ((xs_k hg4690 (by decide)).trans ((xs_k hg4689 (by decide)).trans (xs_s hg4688))), ((xs_k hg4690 (by decide)).trans ((xs_k hg4689 (by decide)).trans ((xs_k hg4688 (by decide)).trans ((xs_k hg3927 (by decide)).trans ((hg3124 a0 13 0 23 hs_a0 (by decide)).trans enn0))))), ((xs_k hg4690 (by decide)).trans (xs_s hg4689)), ((xs_k hg4690 (by decide)).trans ((xs_k hg4689 (by decide)).trans ((xs_k hg4688 (by decide)).trans ((xs_k hg3927 (by decide)).trans ey3909)))), (by omega), (by rw [hS]; exact ((xs_k hg4690 (by decide)).trans ((xs_k hg4689 (by decide)).trans ((xs_k hg4688 (by decide)).trans (xs_s hg3927)))).trans (by unfold xplc; rw [if_pos (by omega)])), (by rw [hS]; exact (xs_s hg4690).trans (by unfold xed; rw [if_pos (by omega), if_neg (by rw [hl3935]; omega)])), (by rw [hS]; unfold xcd; rw [if_pos (by omega), if_neg (by rw [hl3935]; omega), hl3935]; refine ⟨?_, ⟨fun h9 => by omega, fun h9 h8 => absurd h8 (xmkc.r _).2.2⟩⟩; exact Or.inr (Or.inr (Or.inr (Or.inl ⟨rfl, Or.inl (by unfold xmkc; (repeat' split) <;> omega)⟩))))⟩⟩ (Nat.le_refl _) (Nat.le_refl _)
                  · refine X_iconst hK kd28_75.2.2.2.2.2.2.1 ?_
                    refine X_goto hK 147 kd28_75.2.2.2.2.2.2.2.1 (by decide) ?_
                    refine X_puti hK fl_X12_262_13 hs_a0 (by decide) sl_13_22 (by omega) (by omega) kd28_75.2.2.2.2.2.2.2.2.2.1 (fun g4691 hg4691 => ?_)
                    refine X_aloadn hK (i := 0) 1 kd28_75.2.2.2.2.2.2.2.2.2.2.1 rfl rfl ?_
                    refine X_iloadn hK (i := 1) 0 kd28_75.2.2.2.2.2.2.2.2.2.2.2 rfl rfl ?_
                    refine X_puti hK fl_X12_274_13 hs_a0 (by decide) sl_13_24 (by omega) (by omega) kd28_76.1 (fun g4692 hg4692 => ?_)
                    refine X_aloadn hK (i := 0) 1 kd28_76.2.1 rfl rfl ?_
                    refine X_dup hK kd28_76.2.2.1 rfl ?_
                    refine X_getK hK fl_X12_256_13 hs_a0 ((xs_k hg4692 (by decide)).trans ((xs_k hg4691 (by decide)).trans ((xs_k hg3927 (by decide)).trans eq3125))) kd28_76.2.2.2.1 ?_
                    refine X_iconst hK kd28_76.2.2.2.2.1 ?_
                    refine X_iadd hK kd28_76.2.2.2.2.2.1 ?_
                    refine X_puti hK fl_X12_256_13 hs_a0 (by decide) sl_13_20 (by omega) (by omega) kd28_76.2.2.2.2.2.2.1 (fun g4693 hg4693 => ?_)
                    exact hret _ _ _ _ _ _ kd28_76.2.2.2.2.2.2.2.1 ⟨rfl, rfl, ⟨4, nn0, z3921, y3909, ((xs_k hg4693 (by decide)).trans ((xs_k hg4692 (by decide)).trans (xs_s hg4691))), ((xs_k hg4693 (by decide)).trans ((xs_k hg4692 (by decide)).trans ((xs_k hg4691 (by decide)).trans ((xs_k hg3927 (by decide)).trans ((hg3124 a0 13 0 23 hs_a0 (by decide)).trans enn0))))), ((xs_k hg4693 (by decide)).trans (xs_s hg4692)), ((xs_k hg4693 (by decide)).trans ((xs_k hg4692 (by decide)).trans ((xs_k hg4691 (by decide)).trans ((xs_k hg3927 (by decide)).trans ey3909)))), (by omega), (by rw [hS]; exact ((xs_k hg4693 (by decide)).trans ((xs_k hg4692 (by decide)).trans ((xs_k hg4691 (by decide)).trans (xs_s hg3927)))).trans (by unfold xplc; rw [if_pos (by omega)])), (by rw [hS]; exact (xs_s hg4693).trans (by unfold xed; rw [if_pos (by omega), if_neg (by rw [hl3935]; omega)])), (by rw [hS]; unfold xcd; rw [if_pos (by omega), if_neg (by rw [hl3935]; omega), hl3935]; refine ⟨?_, ⟨fun h9 => by omega, fun h9 h8 => absurd h8 (xmkc.r _).2.2⟩⟩; exact Or.inr (Or.inr (Or.inl ⟨rfl, rfl, (by unfold xmkc; (repeat' split) <;> omega)⟩)))⟩⟩ (Nat.le_refl _) (Nat.le_refl _)
            refine X_icmp_le hK 93 (by omega) (by omega) kd28_72.2.2.2.2.2.1 (by decide) (fun c3928 => ?_) (fun c3928 => ?_)
            · exact J3932 (by omega)
            · refine X_aloadn hK (i := 0) 0 kd28_72.2.2.2.2.2.2.1 rfl rfl ?_
              refine X_getK hK fl_X12_259_13 hs_a0 (xs_s hg3927) kd28_72.2.2.2.2.2.2.2.1 ?_
              refine X_sipush hK kd28_72.2.2.2.2.2.2.2.2.1 (by decide) ?_
              refine X_icmp_lt hK 93 (by omega) (by omega) kd28_72.2.2.2.2.2.2.2.2.2.1 (by decide) (fun c4694 => ?_) (fun c4694 => ?_)
              · exact J3932 (by omega)
              · refine X_aloadn hK (i := 0) 0 kd28_72.2.2.2.2.2.2.2.2.2.2.1 rfl rfl ?_
                refine X_sipush hK kd28_72.2.2.2.2.2.2.2.2.2.2.2 (by decide) ?_
                refine X_puti hK fl_X12_259_13 hs_a0 (by decide) sl_13_21 (by omega) (by omega) kd28_73.1 (fun g4695 hg4695 => ?_)
                refine X_aloadn hK (i := 0) 0 kd28_73.2.1 rfl rfl ?_
                refine X_iconst hK kd28_73.2.2.1 ?_
                refine X_puti hK fl_X12_262_13 hs_a0 (by decide) sl_13_22 (by omega) (by omega) kd28_73.2.2.2.1 (fun g4696 hg4696 => ?_)
                exact hret _ _ _ _ _ _ kd28_73.2.2.2.2.1 ⟨rfl, rfl, ⟨1, nn0, ns0, y3909, (xs_s hg4696), ((xs_k hg4696 (by decide)).trans ((xs_k hg4695 (by decide)).trans ((xs_k hg3927 (by decide)).trans ((hg3124 a0 13 0 23 hs_a0 (by decide)).trans enn0)))), ((xs_k hg4696 (by decide)).trans ((xs_k hg4695 (by decide)).trans ((xs_k hg3927 (by decide)).trans ((hg3124 a0 13 0 24 hs_a0 (by decide)).trans ens0)))), ((xs_k hg4696 (by decide)).trans ((xs_k hg4695 (by decide)).trans ((xs_k hg3927 (by decide)).trans ey3909))), (by omega), (by rw [hS]; exact ((xs_k hg4696 (by decide)).trans (xs_s hg4695)).trans (by have h7 := (xskp.ge (f := (xv g y0)) (n := sz) (sz - tt).toNat tt (Nat.le_refl _)).2.1 (by omega); rw [hS] at h7; unfold xplc; rw [if_neg (by omega)]; rw [if_neg (by omega)])), (by rw [hS]; exact ((xs_k hg4696 (by decide)).trans ((xs_k hg4695 (by decide)).trans ((xs_k hg3927 (by decide)).trans eq3125))).trans (by unfold xed; rw [if_neg (by omega)])), (by rw [hS]; unfold xcd; rw [if_neg (by omega)]; refine ⟨?_, ⟨fun h9 => by omega, fun h9 h8 => by omega⟩⟩; exact Or.inr (Or.inr (Or.inr (Or.inl ⟨rfl, Or.inr rfl⟩))))⟩⟩ (Nat.le_refl _) (Nat.le_refl _)
          · refine X_aloadn hK (i := 0) 0 kd28_71.2.2.2.1 rfl rfl ?_
            refine X_dup hK kd28_71.2.2.2.2.1 rfl ?_
            refine X_getK hK fl_X12_256_13 hs_a0 eq3125 kd28_71.2.2.2.2.2.1 ?_
            refine X_iconst hK kd28_71.2.2.2.2.2.2.1 ?_
            refine X_iadd hK kd28_71.2.2.2.2.2.2.2.1 ?_
            refine X_puti hK fl_X12_256_13 hs_a0 (by decide) sl_13_20 (by omega) (by omega) kd28_71.2.2.2.2.2.2.2.2.1 (fun g4697 hg4697 => ?_)
            refine X_goto hK 0 kd28_71.2.2.2.2.2.2.2.2.2.1 (by decide) ?_
            exact ihP3905  g4697 (xM_up (xM.tr xM.rf xLe.rf hg3124 (by decide)) hg4697 hs_a0 (by decide) (by decide)) (q3125 + 1) (by omega) (by omega) (xs_s hg4697) ((xskp.s ⟨by omega, (by rw [hl3925]; omega)⟩).symm.trans v3906) (by omega) (by omega) (by omega)
  exact P3905 ((420 - tt : Int).toNat + 1) g xM.rf tt (by omega) (by omega) ett rfl (by omega) (by omega) (by omega)
