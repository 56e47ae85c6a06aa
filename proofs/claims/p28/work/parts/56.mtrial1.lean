
def xec9 (x : xS3) : Int := x.1 + 16 * x.2.1 + 64 * x.2.2
def xwf9 (x : xS3) : Prop := 0 ≤ x.1 ∧ x.1 ≤ 14 ∧ 0 ≤ x.2.1 ∧ x.2.1 ≤ 2 ∧ 0 ≤ x.2.2 ∧ x.2.2 ≤ 9999
theorem xec9.d {x : xS3} {z : Int} (h : xwf9 x) (e : z = xec9 x) : z % 16 = x.1 ∧ z / 16 % 4 = x.2.1 ∧ z / 64 = x.2.2 ∧ 0 ≤ z ∧ z ≤ 639998 := by
  unfold xwf9 at h
  unfold xec9 at e
  omega
def xck9 (c : List xS3) : Prop := (c = [] ∨ ∀ F : Int → Int, xok9 F 23 c) ∧ ∀ j : Nat, j < c.length → xwf9 (c.getD j (0, 0, 0))
def xln9 (x : xL3) : Prop := xck9 x.2.2 ∧ 0 ≤ x.2.1 ∧ x.2.1 ≤ 1000
def xLr (fi be st : Int → Int) (i : Int) (c : List xS3) : Prop := 0 ≤ fi i ∧ be i = fi i + c.length ∧ be i ≤ 100 ∧ ∀ j : Int, 0 ≤ j → j < c.length → st (fi i + j) = xec9 (c.getD j.toNat (0, 0, 0))
def xTc9 (kd nb fi be st : Int → Int) (ln : Int) (T : List xL3) : Prop := ln = T.length ∧ ln ≤ 16 ∧ ∀ i : Int, 0 ≤ i → i < ln → kd i = (xgl9 T i.toNat).1 ∧ nb i = (xgl9 T i.toNat).2.1 ∧ xLr fi be st i (xgl9 T i.toNat).2.2 ∧ xln9 (xgl9 T i.toNat)
def xFa (f F : Int → Int) : Prop := ∀ i, 0 ≤ i → i < 12 → f i = F i
def xSo (s f : Int) : Prop := (s / 16 % 4 = 0 ∧ f < s / 64) ∨ (s / 16 % 4 = 2 ∧ s / 64 < f) ∨ (s / 16 % 4 ≠ 0 ∧ s / 16 % 4 ≠ 2 ∧ f = s / 64)
theorem xSo.at {F : Int → Int} {x : xS3} {s f r : Int} (h : xwf9 x) (e : s = xec9 x) (ef : f = F x.1) (hr : r = 1 ↔ xSo s f) (h0 : r = 0 ∨ r = 1) : r = xbi (xat9 F x) := by
  obtain ⟨d1, d2, d3, d4, d5⟩ := xec9.d h e
  unfold xSo at hr
  rw [d2, d3, ef] at hr
  unfold xat9 xbi
  by_cases c0 : x.2.1 = 0
  · rw [if_pos c0]
    by_cases c : F x.1 < x.2.2
    · rw [if_pos (decide_eq_true c)]; omega
    · rw [if_neg (by rw [decide_eq_true_eq]; exact c)]; omega
  · rw [if_neg c0]
    by_cases c2 : x.2.1 = 2
    · rw [if_pos c2]
      by_cases c : x.2.2 < F x.1
      · rw [if_pos (decide_eq_true c)]; omega
      · rw [if_neg (by rw [decide_eq_true_eq]; exact c)]; omega
    · rw [if_neg c2]
      by_cases c : F x.1 = x.2.2
      · rw [if_pos (decide_eq_true c)]; omega
      · rw [if_neg (by rw [decide_eq_true_eq]; exact c)]; omega
theorem xck9.ok {c : List xS3} {F : Int → Int} (h : xck9 c) (hk : 0 < c.length) : xok9 F 23 c := by
  rcases h.1 with e | e
  · rw [e] at hk; exact absurd hk (Nat.lt_irrefl _)
  · exact e F
theorem xck9.or {c : List xS3} (h : xck9 c) (F : Int → Int) : c = [] ∨ xok9 F 23 c := h.1.imp id (fun q => q F)
theorem xwl0 : ∀ j : Fin 6, wl0 j.val = xdf9 ((j.val : Nat) : Int) := by decide
theorem xwl0.e {j z : Int} (hj : 0 ≤ j ∧ j ≤ 5) (e : z = wl0 j.toNat) : z = xdf9 j := by
  have h := xwl0 ⟨j.toNat, by omega⟩
  have h1 : wl0 j.toNat = xdf9 ((j.toNat : Nat) : Int) := h
  rw [e, h1, show ((j.toNat : Nat) : Int) = j by omega]
set_option maxHeartbeats 4000000 in
set_option maxRecDepth 100000 in
theorem m_isSo (l : Launch) (D : va_G) (kA : Nat → ClassId) (b0 : Nat) (t0 : Nat → Nat) (S : xT) (g : xG) (x0 : Int) (x1 : Int) (hx0 : 0 ≤ x0 ∧ x0 ≤ 2147483647) (hx1 : (-2147483648) ≤ x1 ∧ x1 ≤ 2147483647) : xMt l yX10_isSo cX10_isSo 4 (some .boolean) 0 0 0 0 D kA b0 t0 [] [.int (iI x0), .int (iI x1)] S g (fun (r : Option Value) (S1 : xT) (g1 : xG) => S = S1 ∧ g = g1 ∧ ∃ z : Int, r = some (.int (iI z)) ∧ 0 ≤ z ∧ z ≤ 1 ∧ ((z = 1 ↔ xSo x0 x1))) := by
  refine xEnterZ (by decide) (by simp [lg_sl, Value.category]) [(0, .int (iI x0)), (1, .int (iI x1))] rfl ?_
  intro K E hK hret _ _ _
  refine X_iloadn hK (i := 0) 0 kd20_0.1 rfl rfl ?_
  refine X_bipush hK kd20_0.2.1 (by decide) ?_
  refine X_idiv hK (by omega) (by omega) kd20_0.2.2.1 (fun z1 ez1 fz1 => ?_)
  have bz1 : 0 ≤ z1 ∧ z1 ≤ 33554431 := by omega
  refine X_istoren hK (i := 2) [(2, .int (iI z1)), (0, .int (iI x0)), (1, .int (iI x1))] kd20_0.2.2.2.1 rfl (by decide) rfl ?_
  refine X_iloadn hK (i := 0) 1 kd20_0.2.2.2.2.1 rfl rfl ?_
  refine X_bipush hK kd20_0.2.2.2.2.2.1 (by decide) ?_
  refine X_idiv hK (by omega) (by omega) kd20_0.2.2.2.2.2.2.1 (fun z2 ez2 fz2 => ?_)
  have bz2 : 0 ≤ z2 ∧ z2 ≤ 134217727 := by omega
  refine X_iconst hK kd20_0.2.2.2.2.2.2.2.1 ?_
  refine X_irem hK (by omega) (by omega) kd20_0.2.2.2.2.2.2.2.2.1 (fun z3 wz3 ez3 fz3 hz3 => ?_)
  have bz3 : 0 ≤ z3 ∧ z3 ≤ 3 := by omega
  refine X_istoren hK (i := 3) [(3, .int (iI z3)), (2, .int (iI z1)), (0, .int (iI x0)), (1, .int (iI x1))] kd20_0.2.2.2.2.2.2.2.2.2.1 rfl (by decide) rfl ?_
  refine X_iloadn hK (i := 3) 0 kd20_0.2.2.2.2.2.2.2.2.2.2.1 rfl rfl ?_
  refine X_if_ne hK 27 (by omega) kd20_0.2.2.2.2.2.2.2.2.2.2.2 (by decide) (fun c4 => ?_) (fun c4 => ?_)
  · refine X_iloadn hK (i := 3) 0 kd20_1.2.2.2.2.2.2.2.1 rfl rfl ?_
    refine X_iconst hK kd20_1.2.2.2.2.2.2.2.2.1 ?_
    refine X_icmp_ne hK 45 (by omega) (by omega) kd20_1.2.2.2.2.2.2.2.2.2.1 (by decide) (fun c5 => ?_) (fun c5 => ?_)
    · refine X_iloadn hK (i := 1) 3 kd20_2.2.2.2.2.2.1 rfl rfl ?_
      refine X_iloadn hK (i := 2) 1 kd20_2.2.2.2.2.2.2.1 rfl rfl ?_
      refine X_icmp_ne hK 54 (by omega) (by omega) kd20_2.2.2.2.2.2.2.2.1 (by decide) (fun c6 => ?_) (fun c6 => ?_)
      · refine X_iconst hK kd20_2.2.2.2.2.2.2.2.2.2.2.1 ?_
        exact hret _ _ _ _ _ _ _ kd20_2.2.2.2.2.2.2.2.2.2.2.2 (by omega) (by omega) ⟨rfl, rfl, 0, rfl, (by omega), (by omega), (by unfold xSo; omega)⟩ (Nat.le_refl _) (Nat.le_refl _)
      · refine X_iconst hK kd20_2.2.2.2.2.2.2.2.2.1 ?_
        refine X_goto hK 55 kd20_2.2.2.2.2.2.2.2.2.2.1 (by decide) ?_
        exact hret _ _ _ _ _ _ _ kd20_2.2.2.2.2.2.2.2.2.2.2.2 (by omega) (by omega) ⟨rfl, rfl, 1, rfl, (by omega), (by omega), (by unfold xSo; omega)⟩ (Nat.le_refl _) (Nat.le_refl _)
    · refine X_iloadn hK (i := 1) 3 kd20_1.2.2.2.2.2.2.2.2.2.2.1 rfl rfl ?_
      refine X_iloadn hK (i := 2) 1 kd20_1.2.2.2.2.2.2.2.2.2.2.2 rfl rfl ?_
      refine X_icmp_le hK 41 (by omega) (by omega) kd20_2.1 (by decide) (fun c7 => ?_) (fun c7 => ?_)
      · refine X_iconst hK kd20_2.2.2.2.1 ?_
        refine X_goto hK 55 kd20_2.2.2.2.2.1 (by decide) ?_
        exact hret _ _ _ _ _ _ _ kd20_2.2.2.2.2.2.2.2.2.2.2.2 (by omega) (by omega) ⟨rfl, rfl, 0, rfl, (by omega), (by omega), (by unfold xSo; omega)⟩ (Nat.le_refl _) (Nat.le_refl _)
      · refine X_iconst hK kd20_2.2.1 ?_
        refine X_goto hK 55 kd20_2.2.2.1 (by decide) ?_
        exact hret _ _ _ _ _ _ _ kd20_2.2.2.2.2.2.2.2.2.2.2.2 (by omega) (by omega) ⟨rfl, rfl, 1, rfl, (by omega), (by omega), (by unfold xSo; omega)⟩ (Nat.le_refl _) (Nat.le_refl _)
  · refine X_iloadn hK (i := 1) 3 kd20_1.1 rfl rfl ?_
    refine X_iloadn hK (i := 2) 1 kd20_1.2.1 rfl rfl ?_
    refine X_icmp_ge hK 25 (by omega) (by omega) kd20_1.2.2.1 (by decide) (fun c8 => ?_) (fun c8 => ?_)
    · refine X_iconst hK kd20_1.2.2.2.2.2.1 ?_
      exact hret _ _ _ _ _ _ _ kd20_1.2.2.2.2.2.2.1 (by omega) (by omega) ⟨rfl, rfl, 0, rfl, (by omega), (by omega), (by unfold xSo; omega)⟩ (Nat.le_refl _) (Nat.le_refl _)
    · refine X_iconst hK kd20_1.2.2.2.1 ?_
      refine X_goto hK 26 kd20_1.2.2.2.2.1 (by decide) ?_
      exact hret _ _ _ _ _ _ _ kd20_1.2.2.2.2.2.2.1 (by omega) (by omega) ⟨rfl, rfl, 1, rfl, (by omega), (by omega), (by unfold xSo; omega)⟩ (Nat.le_refl _) (Nat.le_refl _)

set_option maxHeartbeats 4000000 in
set_option maxRecDepth 100000 in
theorem m_holds (l : Launch) (D : va_G) (kA : Nat → ClassId) (b0 : Nat) (t0 : Nat → Nat) (S : xT) (g : xG) (a0 : Nat) (x1 : Int) (a2 : Nat) (wf : Nat) (wb : Nat) (ws : Nat) (F : Int → Int) (c : List xS3) (hs_a0 : S a0 = some (11, 0)) (hx1 : 0 ≤ x1 ∧ x1 ≤ 15) (hs_a2 : S a2 = some (12000, 12)) (ewf : g a0 5 = .ref wf) (hs_wf : S wf = some (13800, 16)) (ewb : g a0 6 = .ref wb) (hs_wb : S wb = some (13900, 16)) (ews : g a0 7 = .ref ws) (hs_ws : S ws = some (14000, 100)) (hp0 : xFa (xv g a2) F) (hp1 : xLr (xv g wf) (xv g wb) (xv g ws) x1 c) (hp2 : xck9 c) : xMt l yX10_holds cX10_holds 7 (some .boolean) 1 0 0 23 D kA b0 t0 [] [.ref a0, .int (iI x1), .ref a2] S g (fun (r : Option Value) (S1 : xT) (g1 : xG) => S = S1 ∧ g = g1 ∧ ∃ z : Int, r = some (.int (iI z)) ∧ 0 ≤ z ∧ z ≤ 1 ∧ ((z = 1 ↔ xhl9 F c = true))) := by
  refine xEnterZ (by decide) (by simp [lg_sl, Value.category]) [(0, .ref a0), (1, .int (iI x1)), (2, .ref a2)] rfl ?_
  intro K E hK hret _ _ _
  refine X_iconst hK kd23_5.2.1 ?_
  refine X_istoren hK (i := 3) [(3, .int (iI 1)), (0, .ref a0), (1, .int (iI x1)), (2, .ref a2)] kd23_5.2.2.1 rfl (by decide) rfl ?_
  refine X_aloadn hK (i := 0) 1 kd23_5.2.2.2.1 rfl rfl ?_
  refine X_getK hK fl_X10_28_11 hs_a0 ewf kd23_5.2.2.2.2.1 ?_
  refine X_iloadn hK (i := 1) 2 kd23_5.2.2.2.2.2.1 rfl rfl ?_
  refine X_iald hK hs_wf (by decide) sl_13800 (by omega) (by omega) kd23_5.2.2.2.2.2.2.1 (fun z1 ez1 lz1 uz1 => ?_)
  have hw2 : xv g wf x1 = z1 := xv_e (j := x1) ez1 (by omega)
  refine X_istore hK (i := 4) [(4, .int (iI z1)), (3, .int (iI 1)), (0, .ref a0), (1, .int (iI x1)), (2, .ref a2)] kd23_5.2.2.2.2.2.2.2.1 (by decide) rfl ?_
  have P115 : ∀ (nP115 : Nat) (z87 : Int) (_ : 0 ≤ z87) (_ : z87 ≤ 100) (z88 : Int) (_ : 1 ≤ z88) (_ : z88 ≤ 1073741823) (_ : xHo F c (z87 - (xv g wf x1)).toNat z88) (_ : (xv g wf x1) ≤ z87 ∧ z87 ≤ (xv g wf x1) + c.length) (_ : 200 - z87 < (nP115 : Int)), X K E 10 [(4, .int (iI z87)), (3, .int (iI z88)), (0, .ref a0), (1, .int (iI x1)), (2, .ref a2)] [] S g 0 0 := by
    intro nP115
    induction nP115 with
    | zero => intro z87 lz87 uz87 z88 lz88 uz88 v116 v117 mP115; exact False.elim (by omega)
    | succ nP115 ihP115 =>
      intro z87 lz87 uz87 z88 lz88 uz88 v116 v117 mP115
      refine X_iload hK (i := 4) 0 kd23_5.2.2.2.2.2.2.2.2.1 rfl ?_
      have hb9 := xHo.b v116
      refine X_aloadn hK (i := 0) 2 kd23_5.2.2.2.2.2.2.2.2.2.1 rfl rfl ?_
      refine X_getK hK fl_X10_31_11 hs_a0 ewb kd23_5.2.2.2.2.2.2.2.2.2.2.1 ?_
      refine X_iloadn hK (i := 1) 3 kd23_5.2.2.2.2.2.2.2.2.2.2.2 rfl rfl ?_
      refine X_iald hK hs_wb (by decide) sl_13900 (by omega) (by omega) kd23_6.1 (fun z118 ez118 lz118 uz118 => ?_)
      have hw119 : xv g wb x1 = z118 := xv_e (j := x1) ez118 (by omega)
      have hl9 := hp1.2.1
      refine X_icmp_ge hK 122 (by omega) (by omega) kd23_6.2.1 (by decide) (fun c120 => ?_) (fun c120 => ?_)
      · refine X_iloadn hK (i := 3) 1 kd23_11.2.2.1 rfl rfl ?_
        refine X_iconst hK kd23_11.2.2.2.1 ?_
        refine X_iand hK kd23_11.2.2.2.2.1 (fun z121 ez121 lz121 uz121 => ?_)
        have bz121 := xandB ez121 ⟨lz121, uz121⟩ (by omega)
        have qz121 := xb_and1 ez121 ⟨lz121, uz121⟩ (by omega)
        refine X_iconst hK kd23_11.2.2.2.2.2.1 ?_
        refine X_icmp_ne hK 133 (by omega) (by omega) kd23_11.2.2.2.2.2.2.1 (by decide) (fun c122 => ?_) (fun c122 => ?_)
        · refine X_iconst hK kd23_11.2.2.2.2.2.2.2.2.2.1 ?_
          exact hret _ _ _ _ _ _ _ kd23_11.2.2.2.2.2.2.2.2.2.2.1 (by omega) (by omega) ⟨rfl, rfl, 0, rfl, (by omega), (by omega), (by have h9 := xHo.end (F := F) (c := c) (o := z88) (by have h8 := v116; rw [show (z87 - (xv g wf x1)).toNat = c.length by omega] at h8; exact h8) (hp2.or F); rw [← h9]; omega)⟩ (Nat.le_refl _) (Nat.le_refl _)
        · refine X_iconst hK kd23_11.2.2.2.2.2.2.2.1 ?_
          refine X_goto hK 134 kd23_11.2.2.2.2.2.2.2.2.1 (by decide) ?_
          exact hret _ _ _ _ _ _ _ kd23_11.2.2.2.2.2.2.2.2.2.2.1 (by omega) (by omega) ⟨rfl, rfl, 1, rfl, (by omega), (by omega), (by have h9 := xHo.end (F := F) (c := c) (o := z88) (by have h8 := v116; rw [show (z87 - (xv g wf x1)).toNat = c.length by omega] at h8; exact h8) (hp2.or F); rw [← h9]; omega)⟩ (Nat.le_refl _) (Nat.le_refl _)
      · refine X_aloadn hK (i := 0) 2 kd23_6.2.2.1 rfl rfl ?_
        refine X_getK hK fl_X10_34_11 hs_a0 ews kd23_6.2.2.2.1 ?_
        refine X_iload hK (i := 4) 0 kd23_6.2.2.2.2.1 rfl ?_
        refine X_iald4 hK hs_ws (by decide) sl_14000 (by omega) (by omega) kd23_6.2.2.2.2.2.1 (fun z123 ez123 lz123 uz123 mz123 => ?_)
        have hw124 : xv g ws z87 = z123 := xv_e (j := z87) ez123 (by omega)
        have hx9 : z123 = xec9 (c.getD (z87 - (xv g wf x1)).toNat (0, 0, 0)) := by have h9 := hp1.2.2.2 (z87 - (xv g wf x1)) (by omega) (by omega); rw [show (xv g wf x1) + (z87 - (xv g wf x1)) = z87 by omega, hw124] at h9; exact h9
        have hw9 := hp2.2 (z87 - (xv g wf x1)).toNat (by omega)
        have hd9 := xec9.d hw9 hx9
        have hk9 := hp2.ok (F := F) (show 0 < c.length by omega)
        have hq9 := hw9.2.1
        refine X_bipush hK kd23_6.2.2.2.2.2.2.1 (by decide) ?_
        refine X_irem hK (by omega) (by omega) kd23_6.2.2.2.2.2.2.2.1 (fun z125 wz125 ez125 fz125 hz125 => ?_)
        have bz125 : 0 ≤ z125 ∧ z125 ≤ 15 := by omega
        have hm9 : z125 = (c.getD (z87 - (xv g wf x1)).toNat (0, 0, 0)).1 := by omega
        refine X_istore hK (i := 5) [(5, .int (iI z125)), (4, .int (iI z87)), (3, .int (iI z88)), (0, .ref a0), (1, .int (iI x1)), (2, .ref a2)] kd23_6.2.2.2.2.2.2.2.2.1 (by decide) rfl ?_
        refine X_iloadn hK (i := 3) 2 kd23_6.2.2.2.2.2.2.2.2.2.1 rfl rfl ?_
        refine X_iconst hK kd23_6.2.2.2.2.2.2.2.2.2.2.1 ?_
        refine X_iand hK kd23_6.2.2.2.2.2.2.2.2.2.2.2 (fun z126 ez126 lz126 uz126 => ?_)
        have bz126 := xandB ez126 ⟨lz126, uz126⟩ (by omega)
        have qz126 := xb_and1 ez126 ⟨lz126, uz126⟩ (by omega)
        refine X_istore hK (i := 6) [(6, .int (iI z126)), (5, .int (iI z125)), (4, .int (iI z87)), (3, .int (iI z88)), (0, .ref a0), (1, .int (iI x1)), (2, .ref a2)] kd23_7.1 (by decide) rfl ?_
        refine X_iload hK (i := 5) 1 kd23_7.2.1 rfl ?_
        refine X_bipush hK kd23_7.2.2.1 (by decide) ?_
        refine X_icmp_ne hK 52 (by omega) (by omega) kd23_7.2.2.2.1 (by decide) (fun c127 => ?_) (fun c127 => ?_)
        · refine X_iload hK (i := 5) 1 kd23_7.2.2.2.2.2.2.2.2.2.1 rfl ?_
          refine X_bipush hK kd23_7.2.2.2.2.2.2.2.2.2.2.1 (by decide) ?_
          refine X_icmp_ne hK 72 (by omega) (by omega) kd23_7.2.2.2.2.2.2.2.2.2.2.2 (by decide) (fun c128 => ?_) (fun c128 => ?_)
          · refine X_iload hK (i := 5) 1 kd23_8.2.2.2.2.2.2.2.2.2.1 rfl ?_
            refine X_bipush hK kd23_8.2.2.2.2.2.2.2.2.2.2.1 (by decide) ?_
            refine X_icmp_ne hK 89 (by omega) (by omega) kd23_8.2.2.2.2.2.2.2.2.2.2.2 (by decide) (fun c129 => ?_) (fun c129 => ?_)
            · refine X_iloadn hK (i := 3) 3 kd23_9.2.2.2.2.2.2.2.1 rfl rfl ?_
              refine X_iconst hK kd23_9.2.2.2.2.2.2.2.2.1 ?_
              refine X_ishl hK kd23_9.2.2.2.2.2.2.2.2.2.1 (fun z130 ez130 lz130 uz130 => ?_)
              have qz130 := xb_shl1 ez130 ⟨lz130, uz130⟩ (by omega)
              refine X_aloadn hK (i := 0) 4 kd23_9.2.2.2.2.2.2.2.2.2.2.1 rfl rfl ?_
              refine X_getK hK fl_X10_34_11 hs_a0 ews kd23_9.2.2.2.2.2.2.2.2.2.2.2 ?_
              refine X_iload hK (i := 4) 2 kd23_10.1 rfl ?_
              refine X_ialdK hK hs_ws (by decide) (by omega) (by omega) ez123 kd23_10.2.1 ?_
              refine X_aloadn hK (i := 2) 6 kd23_10.2.2.1 rfl rfl ?_
              refine X_iload hK (i := 5) 1 kd23_10.2.2.2.1 rfl ?_
              refine X_iald hK hs_a2 (by decide) sl_12000 (by omega) (by omega) kd23_10.2.2.2.2.1 (fun z131 ez131 lz131 uz131 => ?_)
              have fz132 : z131 = F z125 := (xv_e (j := z125) ez131 (by omega)).symm.trans (hp0 z125 (by omega) (by omega))
              refine X_callS hK [.int (iI z123), .int (iI z131)] [.int (iI z130)] lk_X10_57 (m_isSo _ _ _ _ _ S g z123 z131 (by omega) (by omega)) kd23_10.2.2.2.2.2.1 rfl rfl (by simp [Value.category]) (by decide) (by decide) (by decide) (by decide) (fun r133 S135 g134 pr133 qr133 hg134 => ?_)
              obtain ⟨rfl, rfl, z136, rfl, lz136, uz136, k137⟩ := pr133
              refine X_st [.int (iI z136), .int (iI z130)] rfl ?_
              have so138 : z136 = xbi (xat9 F (c.getD (z87 - (xv g wf x1)).toNat (0, 0, 0))) := xSo.at hw9 hx9 (by rw [← hm9]; exact fz132) k137 (by omega)
              refine X_if_eq hK 113 (by omega) kd23_10.2.2.2.2.2.2.1 (by decide) (fun c139 => ?_) (fun c139 => ?_)
              · refine X_iconst hK kd23_10.2.2.2.2.2.2.2.2.2.1 ?_
                refine X_ior hK kd23_10.2.2.2.2.2.2.2.2.2.2.1 (fun z140 ez140 lz140 uz140 => ?_)
                have qz140 := xb_or01 ez140 ⟨lz140, uz140⟩ (by omega)
                refine X_istoren hK (i := 3) [(3, .int (iI z140)), (6, .int (iI z126)), (5, .int (iI z125)), (4, .int (iI z87)), (0, .ref a0), (1, .int (iI x1)), (2, .ref a2)] kd23_10.2.2.2.2.2.2.2.2.2.2.2 rfl (by decide) rfl ?_
                have hn9 : xHo F c ((z87 - (xv g wf x1)).toNat + 1) z140 := xHo.at v116 hk9 (by omega) ⟨by omega, by omega, by omega⟩ (by rw [← so138]; omega)
                have hr9 := xHo.b hn9
                refine X_iinc hK (i := 4) (z := z87) (n := 1) 3 [(4, .int (iI (z87 + 1))), (3, .int (iI z140)), (6, .int (iI z126)), (5, .int (iI z125)), (0, .ref a0), (1, .int (iI x1)), (2, .ref a2)] kd23_11.1 rfl (by decide) rfl ?_
                refine X_goto hK 10 kd23_11.2.1 (by decide) ?_
                refine X_lv [(4, .int (iI (z87 + 1))), (3, .int (iI z140)), (0, .ref a0), (1, .int (iI x1)), (2, .ref a2)] [0, 1, 4, 5, 6] rfl ?_
                exact ihP115  (z87 + 1) (by omega) (by omega) z140 (by omega) (by omega) (by have h9 := hn9; rw [show (z87 - (xv g wf x1)).toNat + 1 = (z87 + 1 - (xv g wf x1)).toNat by omega] at h9; exact h9) (by omega) (by omega)
              · refine X_iconst hK kd23_10.2.2.2.2.2.2.2.1 ?_
                refine X_goto hK 114 kd23_10.2.2.2.2.2.2.2.2.1 (by decide) ?_
                refine X_ior hK kd23_10.2.2.2.2.2.2.2.2.2.2.1 (fun z141 ez141 lz141 uz141 => ?_)
                have qz141 := xb_or01 ez141 ⟨lz141, uz141⟩ (by omega)
                refine X_istoren hK (i := 3) [(3, .int (iI z141)), (6, .int (iI z126)), (5, .int (iI z125)), (4, .int (iI z87)), (0, .ref a0), (1, .int (iI x1)), (2, .ref a2)] kd23_10.2.2.2.2.2.2.2.2.2.2.2 rfl (by decide) rfl ?_
                have hn9 : xHo F c ((z87 - (xv g wf x1)).toNat + 1) z141 := xHo.at v116 hk9 (by omega) ⟨by omega, by omega, by omega⟩ (by rw [← so138]; omega)
                have hr9 := xHo.b hn9
                refine X_iinc hK (i := 4) (z := z87) (n := 1) 3 [(4, .int (iI (z87 + 1))), (3, .int (iI z141)), (6, .int (iI z126)), (5, .int (iI z125)), (0, .ref a0), (1, .int (iI x1)), (2, .ref a2)] kd23_11.1 rfl (by decide) rfl ?_
                refine X_goto hK 10 kd23_11.2.1 (by decide) ?_
                refine X_lv [(4, .int (iI (z87 + 1))), (3, .int (iI z141)), (0, .ref a0), (1, .int (iI x1)), (2, .ref a2)] [0, 1, 4, 5, 6] rfl ?_
                exact ihP115  (z87 + 1) (by omega) (by omega) z141 (by omega) (by omega) (by have h9 := hn9; rw [show (z87 - (xv g wf x1)).toNat + 1 = (z87 + 1 - (xv g wf x1)).toNat by omega] at h9; exact h9) (by omega) (by omega)
            · refine X_iloadn hK (i := 3) 3 kd23_9.1 rfl rfl ?_
              refine X_iconst hK kd23_9.2.1 ?_
              refine X_iushr hK kd23_9.2.2.1 (fun z142 ez142 lz142 uz142 => ?_)
              have qz142 := xb_ushr1 ez142 ⟨lz142, uz142⟩ (by omega)
              refine X_iload hK (i := 6) 0 kd23_9.2.2.2.1 rfl ?_
              refine X_ior hK kd23_9.2.2.2.2.1 (fun z143 ez143 lz143 uz143 => ?_)
              have qz143 := xb_or01 ez143 ⟨lz143, uz143⟩ (by omega)
              refine X_istoren hK (i := 3) [(3, .int (iI z143)), (6, .int (iI z126)), (5, .int (iI z125)), (4, .int (iI z87)), (0, .ref a0), (1, .int (iI x1)), (2, .ref a2)] kd23_9.2.2.2.2.2.1 rfl (by decide) rfl ?_
              have hn9 : xHo F c ((z87 - (xv g wf x1)).toNat + 1) z143 := xHo.or v116 hk9 (by omega) (by omega) (by split <;> omega)
              have hr9 := xHo.b hn9
              refine X_goto hK 116 kd23_9.2.2.2.2.2.2.1 (by decide) ?_
              refine X_iinc hK (i := 4) (z := z87) (n := 1) 3 [(4, .int (iI (z87 + 1))), (3, .int (iI z143)), (6, .int (iI z126)), (5, .int (iI z125)), (0, .ref a0), (1, .int (iI x1)), (2, .ref a2)] kd23_11.1 rfl (by decide) rfl ?_
              refine X_goto hK 10 kd23_11.2.1 (by decide) ?_
              refine X_lv [(4, .int (iI (z87 + 1))), (3, .int (iI z143)), (0, .ref a0), (1, .int (iI x1)), (2, .ref a2)] [0, 1, 4, 5, 6] rfl ?_
              exact ihP115  (z87 + 1) (by omega) (by omega) z143 (by omega) (by omega) (by have h9 := hn9; rw [show (z87 - (xv g wf x1)).toNat + 1 = (z87 + 1 - (xv g wf x1)).toNat by omega] at h9; exact h9) (by omega) (by omega)
          · refine X_iloadn hK (i := 3) 3 kd23_8.1 rfl rfl ?_
            refine X_iconst hK kd23_8.2.1 ?_
            refine X_iushr hK kd23_8.2.2.1 (fun z144 ez144 lz144 uz144 => ?_)
            have qz144 := xb_ushr1 ez144 ⟨lz144, uz144⟩ (by omega)
            refine X_iload hK (i := 6) 0 kd23_8.2.2.2.1 rfl ?_
            refine X_bipush hK kd23_8.2.2.2.2.1 (by decide) ?_
            refine X_ior hK kd23_8.2.2.2.2.2.1 (fun z145 ez145 lz145 uz145 => ?_)
            have qz145 := xb_or2 ez145 ⟨lz145, uz145⟩ (by omega)
            refine X_iand hK kd23_8.2.2.2.2.2.2.1 (fun z146 ez146 lz146 uz146 => ?_)
            have qz146 := xb_andm ez146 ⟨lz146, uz146⟩ (by omega)
            refine X_istoren hK (i := 3) [(3, .int (iI z146)), (6, .int (iI z126)), (5, .int (iI z125)), (4, .int (iI z87)), (0, .ref a0), (1, .int (iI x1)), (2, .ref a2)] kd23_8.2.2.2.2.2.2.2.1 rfl (by decide) rfl ?_
            have hn9 : xHo F c ((z87 - (xv g wf x1)).toNat + 1) z146 := xHo.and v116 hk9 (by omega) (by omega) (by split <;> omega)
            have hr9 := xHo.b hn9
            refine X_goto hK 116 kd23_8.2.2.2.2.2.2.2.2.1 (by decide) ?_
            refine X_iinc hK (i := 4) (z := z87) (n := 1) 3 [(4, .int (iI (z87 + 1))), (3, .int (iI z146)), (6, .int (iI z126)), (5, .int (iI z125)), (0, .ref a0), (1, .int (iI x1)), (2, .ref a2)] kd23_11.1 rfl (by decide) rfl ?_
            refine X_goto hK 10 kd23_11.2.1 (by decide) ?_
            refine X_lv [(4, .int (iI (z87 + 1))), (3, .int (iI z146)), (0, .ref a0), (1, .int (iI x1)), (2, .ref a2)] [0, 1, 4, 5, 6] rfl ?_
            exact ihP115  (z87 + 1) (by omega) (by omega) z146 (by omega) (by omega) (by have h9 := hn9; rw [show (z87 - (xv g wf x1)).toNat + 1 = (z87 + 1 - (xv g wf x1)).toNat by omega] at h9; exact h9) (by omega) (by omega)
        · refine X_iloadn hK (i := 3) 3 kd23_7.2.2.2.2.1 rfl rfl ?_
          refine X_iconst hK kd23_7.2.2.2.2.2.1 ?_
          refine X_ixor hK kd23_7.2.2.2.2.2.2.1 (fun z147 ez147 lz147 uz147 => ?_)
          have bz147 := xixorB 30 ez147 ⟨lz147, uz147⟩ (by omega) (by omega) (by decide)
          have qz147 := xb_xor1 ez147 ⟨lz147, uz147⟩ (by omega)
          refine X_istoren hK (i := 3) [(3, .int (iI z147)), (6, .int (iI z126)), (5, .int (iI z125)), (4, .int (iI z87)), (0, .ref a0), (1, .int (iI x1)), (2, .ref a2)] kd23_7.2.2.2.2.2.2.2.1 rfl (by decide) rfl ?_
          have hn9 : xHo F c ((z87 - (xv g wf x1)).toNat + 1) z147 := xHo.not v116 hk9 (by omega) (by omega) (by omega)
          have hr9 := xHo.b hn9
          refine X_goto hK 116 kd23_7.2.2.2.2.2.2.2.2.1 (by decide) ?_
          refine X_iinc hK (i := 4) (z := z87) (n := 1) 3 [(4, .int (iI (z87 + 1))), (3, .int (iI z147)), (6, .int (iI z126)), (5, .int (iI z125)), (0, .ref a0), (1, .int (iI x1)), (2, .ref a2)] kd23_11.1 rfl (by decide) rfl ?_
          refine X_goto hK 10 kd23_11.2.1 (by decide) ?_
          refine X_lv [(4, .int (iI (z87 + 1))), (3, .int (iI z147)), (0, .ref a0), (1, .int (iI x1)), (2, .ref a2)] [0, 1, 4, 5, 6] rfl ?_
          exact ihP115  (z87 + 1) (by omega) (by omega) z147 (by omega) (by omega) (by have h9 := hn9; rw [show (z87 - (xv g wf x1)).toNat + 1 = (z87 + 1 - (xv g wf x1)).toNat by omega] at h9; exact h9) (by omega) (by omega)
  exact P115 ((200 - z1 : Int).toNat + 1) z1 (by omega) (by omega) 1 (by omega) (by omega) (by rw [show (z1 - (xv g wf x1)).toNat = 0 by omega]; exact xHo.nil) (by omega) (by omega)

set_option maxHeartbeats 4000000 in
set_option maxRecDepth 100000 in
theorem m_lineFor (l : Launch) (D : va_G) (kA : Nat → ClassId) (b0 : Nat) (t0 : Nat → Nat) (S : xT) (g : xG) (a0 : Nat) (x1 : Int) (a2 : Nat) (ln : Int) (wk : Nat) (wn : Nat) (wf : Nat) (wb : Nat) (ws : Nat) (F : Int → Int) (T : List xL3) (hs_a0 : S a0 = some (11, 0)) (hx1 : 0 ≤ x1 ∧ x1 ≤ 5) (hs_a2 : S a2 = some (12000, 12)) (hln : 0 ≤ ln ∧ ln ≤ 16) (eln : g a0 1 = .int (iI ln)) (ewk : g a0 3 = .ref wk) (hs_wk : S wk = some (13600, 16)) (ewn : g a0 4 = .ref wn) (hs_wn : S wn = some (13700, 16)) (ewf : g a0 5 = .ref wf) (hs_wf : S wf = some (13800, 16)) (ewb : g a0 6 = .ref wb) (hs_wb : S wb = some (13900, 16)) (ews : g a0 7 = .ref ws) (hs_ws : S ws = some (14000, 100)) (hp0 : xFa (xv g a2) F) (hp1 : xTc9 (xv g wk) (xv g wn) (xv g wf) (xv g wb) (xv g ws) ln T) : xMt l yX10_lineFor cX10_lineFor 4 (some .int) 2 0 0 49 D kA b0 t0 [] [.ref a0, .int (iI x1), .ref a2] S g (fun (r : Option Value) (S1 : xT) (g1 : xG) => S = S1 ∧ g = g1 ∧ ∃ z : Int, r = some (.int (iI z)) ∧ (-1) ≤ z ∧ z ≤ 15 ∧ (z = xlf9 F x1 T 0)) := by
  refine xEnterI (by decide) (by simp [lg_sl, Value.category]) [(0, .ref a0), (1, .int (iI x1)), (2, .ref a2)] rfl ?_
  intro K E hK hret _ _ _
  refine X_iconst hK kd23_11.2.2.2.2.2.2.2.2.2.2.2 ?_
  refine X_istoren hK (i := 3) [(3, .int (iI 0)), (0, .ref a0), (1, .int (iI x1)), (2, .ref a2)] kd23_12.1 rfl (by decide) rfl ?_
  have P41 : ∀ (nP41 : Nat) (z31 : Int) (_ : 0 ≤ z31) (_ : z31 ≤ 16) (_ : xlf9 F x1 (T.drop z31.toNat) z31 = xlf9 F x1 T 0) (_ : 40 - z31 < (nP41 : Int)), X K E 2 [(3, .int (iI z31)), (0, .ref a0), (1, .int (iI x1)), (2, .ref a2)] [] S g 0 0 := by
    intro nP41
    induction nP41 with
    | zero => intro z31 lz31 uz31 v42 mP41; exact False.elim (by omega)
    | succ nP41 ihP41 =>
      intro z31 lz31 uz31 v42 mP41
      refine X_iloadn hK (i := 3) 0 kd23_12.2.1 rfl rfl ?_
      refine X_aloadn hK (i := 0) 1 kd23_12.2.2.1 rfl rfl ?_
      refine X_getK hK fl_X10_15_11 hs_a0 eln kd23_12.2.2.2.1 ?_
      refine X_icmp_ge hK 37 (by omega) (by omega) kd23_12.2.2.2.2.1 (by decide) (fun c43 => ?_) (fun c43 => ?_)
      · refine X_iconst hK kd23_13.2.2.2.2.2.2.2.2.1 ?_
        exact hret _ _ _ _ _ _ _ kd23_13.2.2.2.2.2.2.2.2.2 ⟨rfl, rfl, (-1), rfl, (by omega), (by omega), (by rw [← v42]; exact (xlf9.e (by have h7 := hp1.1; omega)).symm)⟩ (Nat.le_refl _) (Nat.le_refl _)
      · refine X_aloadn hK (i := 0) 1 kd23_12.2.2.2.2.2.1 rfl rfl ?_
        refine X_getK hK fl_X10_21_11 hs_a0 ewk kd23_12.2.2.2.2.2.2.1 ?_
        refine X_iloadn hK (i := 3) 0 kd23_12.2.2.2.2.2.2.2.1 rfl rfl ?_
        refine X_iald hK hs_wk (by decide) sl_13600 (by omega) (by omega) kd23_12.2.2.2.2.2.2.2.2.1 (fun z44 ez44 lz44 uz44 => ?_)
        have hw45 : (xgl9 T z31.toNat).1 = z44 := (hp1.2.2 z31 (by omega) (by omega)).1.symm.trans (xv_e (j := z31) ez44 (by omega))
        refine X_iloadn hK (i := 1) 2 kd23_12.2.2.2.2.2.2.2.2.2.1 rfl rfl ?_
        refine X_icmp_ne hK 31 (by omega) (by omega) kd23_12.2.2.2.2.2.2.2.2.2.2.1 (by decide) (fun c46 => ?_) (fun c46 => ?_)
        · refine X_iinc hK (i := 3) (z := z31) (n := 1) 0 [(3, .int (iI (z31 + 1))), (0, .ref a0), (1, .int (iI x1)), (2, .ref a2)] kd23_13.2.2.2.2.2.2.1 rfl (by decide) rfl ?_
          refine X_goto hK 2 kd23_13.2.2.2.2.2.2.2.1 (by decide) ?_
          exact ihP41  (z31 + 1) (by omega) (by omega) (by have h9 := v42; rw [xlf9.s (by have h7 := hp1.1; omega), if_neg (fun q9 => by have h8 := q9.1; rw [hw45] at h8; omega)] at h9; exact h9) (by omega)
        · refine X_aloadn hK (i := 0) 1 kd23_12.2.2.2.2.2.2.2.2.2.2.2 rfl rfl ?_
          refine X_iloadn hK (i := 3) 0 kd23_13.1 rfl rfl ?_
          refine X_aloadn hK (i := 2) 3 kd23_13.2.1 rfl rfl ?_
          refine X_callV hK [.int (iI z31), .ref a2] [] lk_X10_37 (m_holds _ _ _ _ _ S g a0 z31 a2 wf wb ws F (xgl9 T z31.toNat).2.2 hs_a0 (by omega) hs_a2 ewf hs_wf ewb hs_wb ews hs_ws hp0 (hp1.2.2 z31 (by omega) (by omega)).2.2.1 (hp1.2.2 z31 (by omega) (by omega)).2.2.2.1) hs_a0 ⟨by decide, rfl⟩ kd23_13.2.2.1 rfl rfl (by simp [Value.category]) (by decide) (by decide) (by decide) (by decide) (fun r47 S49 g48 pr47 qr47 hg48 => ?_)
          obtain ⟨rfl, rfl, z50, rfl, lz50, uz50, k51⟩ := pr47
          refine X_st [.int (iI z50)] rfl ?_
          refine X_if_eq hK 31 (by omega) kd23_13.2.2.2.1 (by decide) (fun c52 => ?_) (fun c52 => ?_)
          · refine X_iinc hK (i := 3) (z := z31) (n := 1) 0 [(3, .int (iI (z31 + 1))), (0, .ref a0), (1, .int (iI x1)), (2, .ref a2)] kd23_13.2.2.2.2.2.2.1 rfl (by decide) rfl ?_
            refine X_goto hK 2 kd23_13.2.2.2.2.2.2.2.1 (by decide) ?_
            exact ihP41  (z31 + 1) (by omega) (by omega) (by have h9 := v42; rw [xlf9.s (by have h7 := hp1.1; omega), if_neg (fun q9 => by have h8 := k51.mpr q9.2; omega)] at h9; exact h9) (by omega)
          · refine X_iloadn hK (i := 3) 0 kd23_13.2.2.2.2.1 rfl rfl ?_
            exact hret _ _ _ _ _ _ _ kd23_13.2.2.2.2.2.1 ⟨rfl, rfl, z31, rfl, (by omega), (by omega), (by rw [← v42, xlf9.s (by have h7 := hp1.1; omega), if_pos ⟨by rw [hw45]; omega, k51.mp (by omega)⟩])⟩ (Nat.le_refl _) (Nat.le_refl _)
  exact P41 ((40 - 0 : Int).toNat + 1) 0 (by omega) (by omega) rfl (by omega)

set_option maxHeartbeats 4000000 in
set_option maxRecDepth 100000 in
theorem m_numberOf (l : Launch) (D : va_G) (kA : Nat → ClassId) (b0 : Nat) (t0 : Nat → Nat) (S : xT) (g : xG) (a0 : Nat) (x1 : Int) (x2 : Int) (ln : Int) (wk : Nat) (wn : Nat) (wf : Nat) (wb : Nat) (ws : Nat) (T : List xL3) (hs_a0 : S a0 = some (11, 0)) (hx1 : (-1) ≤ x1 ∧ x1 ≤ 15) (hx2 : 0 ≤ x2 ∧ x2 ≤ 5) (hln : 0 ≤ ln ∧ ln ≤ 16) (eln : g a0 1 = .int (iI ln)) (ewk : g a0 3 = .ref wk) (hs_wk : S wk = some (13600, 16)) (ewn : g a0 4 = .ref wn) (hs_wn : S wn = some (13700, 16)) (ewf : g a0 5 = .ref wf) (hs_wf : S wf = some (13800, 16)) (ewb : g a0 6 = .ref wb) (hs_wb : S wb = some (13900, 16)) (ews : g a0 7 = .ref ws) (hs_ws : S ws = some (14000, 100)) (hp0 : xTc9 (xv g wk) (xv g wn) (xv g wf) (xv g wb) (xv g ws) ln T) (hp1 : x1 < ln) : xMt l yX10_numberOf cX10_numberOf 4 (some .int) 1 0 0 13 D kA b0 t0 [] [.ref a0, .int (iI x1), .int (iI x2)] S g (fun (r : Option Value) (S1 : xT) (g1 : xG) => S = S1 ∧ g = g1 ∧ ∃ z : Int, r = some (.int (iI z)) ∧ 0 ≤ z ∧ z ≤ 1000 ∧ (z = xcp9 x2 (xnb9 T x1 x2))) := by
  refine xEnterI (by decide) (by simp [lg_sl, Value.category]) [(0, .ref a0), (1, .int (iI x1)), (2, .int (iI x2))] rfl ?_
  intro K E hK hret _ _ _
  refine X_iloadn hK (i := 1) 1 kd32_0.1 rfl rfl ?_
  refine X_iconst hK kd32_0.2.1 ?_
  refine X_icmp_ne hK 13 (by omega) (by omega) kd32_0.2.2.1 (by decide) (fun c1 => ?_) (fun c1 => ?_)
  · refine X_aloadn hK (i := 0) 0 kd32_0.2.2.2.2.2.2.2.1 rfl rfl ?_
    refine X_getK hK fl_X10_25_11 hs_a0 ewn kd32_0.2.2.2.2.2.2.2.2.1 ?_
    refine X_iloadn hK (i := 1) 1 kd32_0.2.2.2.2.2.2.2.2.2.1 rfl rfl ?_
    refine X_iald hK hs_wn (by decide) sl_13700 (by omega) (by omega) kd32_0.2.2.2.2.2.2.2.2.2.2.1 (fun z2 ez2 lz2 uz2 => ?_)
    have nz3 : z2 = (xgl9 T x1.toNat).2.1 := (xv_e (j := x1) ez2 (by omega)).symm.trans (hp0.2.2 x1 (by omega) (by omega)).2.1
    have bnz3 := (hp0.2.2 x1 (by omega) (by omega)).2.2.2.2
    rw [← nz3] at bnz3
    refine X_istoren hK (i := 3) [(3, .int (iI z2)), (0, .ref a0), (1, .int (iI x1)), (2, .int (iI x2))] kd32_0.2.2.2.2.2.2.2.2.2.2.2 rfl (by decide) rfl ?_
    refine X_iloadn hK (i := 2) 3 kd32_1.1 rfl rfl ?_
    refine X_iconst hK kd32_1.2.1 ?_
    refine X_icmp_ne hK 34 (by omega) (by omega) kd32_1.2.2.1 (by decide) (fun c4 => ?_) (fun c4 => ?_)
    · refine X_iloadn hK (i := 3) 0 kd32_1.2.2.2.2.2.2.2.1 rfl rfl ?_
      exact hret _ _ _ _ _ _ _ kd32_1.2.2.2.2.2.2.2.2.1 ⟨rfl, rfl, z2, rfl, (by omega), (by omega), (by rw [show xnb9 T x1 x2 = z2 from Eq.symm (by unfold xnb9; rw [if_neg (by omega)]; exact nz3)]; unfold xcp9; split <;> omega)⟩ (Nat.le_refl _) (Nat.le_refl _)
    · refine X_iloadn hK (i := 3) 0 kd32_1.2.2.2.1 rfl rfl ?_
      refine X_bipush hK kd32_1.2.2.2.2.1 (by decide) ?_
      refine X_mmin hK mm_X10_44 ⟨by decide, by simp [Value.category]⟩ (by decide) (by omega) (by omega) kd32_1.2.2.2.2.2.1 (fun z5 ez5 fz5 => ?_)
      have bz5 : (-2147483648) ≤ z5 ∧ z5 ≤ 100 := by omega
      refine X_goto hK 35 kd32_1.2.2.2.2.2.2.1 (by decide) ?_
      exact hret _ _ _ _ _ _ _ kd32_1.2.2.2.2.2.2.2.2.1 ⟨rfl, rfl, z5, rfl, (by omega), (by omega), (by rw [show xnb9 T x1 x2 = z2 from Eq.symm (by unfold xnb9; rw [if_neg (by omega)]; exact nz3)]; unfold xcp9; split <;> omega)⟩ (Nat.le_refl _) (Nat.le_refl _)
  · refine X_getW hK kd32_0.2.2.2.1 ?_
    refine X_iloadn hK (i := 2) 2 kd32_0.2.2.2.2.1 rfl rfl ?_
    refine X_wald hK (by omega) (by omega) kd32_0.2.2.2.2.2.1 (fun z6 ez6 lz6 uz6 => ?_)
    have wz7 : z6 = xdf9 x2 := xwl0.e (by omega) ez6
    refine X_goto hK 19 kd32_0.2.2.2.2.2.2.1 (by decide) ?_
    refine X_istoren hK (i := 3) [(3, .int (iI z6)), (0, .ref a0), (1, .int (iI x1)), (2, .int (iI x2))] kd32_0.2.2.2.2.2.2.2.2.2.2.2 rfl (by decide) rfl ?_
    refine X_iloadn hK (i := 2) 3 kd32_1.1 rfl rfl ?_
    refine X_iconst hK kd32_1.2.1 ?_
    refine X_icmp_ne hK 34 (by omega) (by omega) kd32_1.2.2.1 (by decide) (fun c8 => ?_) (fun c8 => ?_)
    · refine X_iloadn hK (i := 3) 0 kd32_1.2.2.2.2.2.2.2.1 rfl rfl ?_
      exact hret _ _ _ _ _ _ _ kd32_1.2.2.2.2.2.2.2.2.1 ⟨rfl, rfl, z6, rfl, (by omega), (by omega), (by rw [show xnb9 T x1 x2 = z6 from Eq.symm (by unfold xnb9; rw [if_pos (by omega)]; exact wz7)]; unfold xcp9; split <;> omega)⟩ (Nat.le_refl _) (Nat.le_refl _)
    · refine X_iloadn hK (i := 3) 0 kd32_1.2.2.2.1 rfl rfl ?_
      refine X_bipush hK kd32_1.2.2.2.2.1 (by decide) ?_
      refine X_mmin hK mm_X10_44 ⟨by decide, by simp [Value.category]⟩ (by decide) (by omega) (by omega) kd32_1.2.2.2.2.2.1 (fun z9 ez9 fz9 => ?_)
      have bz9 : 0 ≤ z9 ∧ z9 ≤ 100 := by omega
      refine X_goto hK 35 kd32_1.2.2.2.2.2.2.1 (by decide) ?_
      exact hret _ _ _ _ _ _ _ kd32_1.2.2.2.2.2.2.2.2.1 ⟨rfl, rfl, z9, rfl, (by omega), (by omega), (by rw [show xnb9 T x1 x2 = z6 from Eq.symm (by unfold xnb9; rw [if_pos (by omega)]; exact wz7)]; unfold xcp9; split <;> omega)⟩ (Nat.le_refl _) (Nat.le_refl _)

set_option maxHeartbeats 4000000 in
set_option maxRecDepth 100000 in
theorem m_tells (l : Launch) (D : va_G) (kA : Nat → ClassId) (b0 : Nat) (t0 : Nat → Nat) (S : xT) (g : xG) (a0 : Nat) (x1 : Int) (a2 : Nat) (ln : Int) (wk : Nat) (wn : Nat) (wf : Nat) (wb : Nat) (ws : Nat) (F : Int → Int) (T : List xL3) (hs_a0 : S a0 = some (11, 0)) (hx1 : 0 ≤ x1 ∧ x1 ≤ 5) (hs_a2 : S a2 = some (12000, 12)) (hln : 0 ≤ ln ∧ ln ≤ 16) (eln : g a0 1 = .int (iI ln)) (ewk : g a0 3 = .ref wk) (hs_wk : S wk = some (13600, 16)) (ewn : g a0 4 = .ref wn) (hs_wn : S wn = some (13700, 16)) (ewf : g a0 5 = .ref wf) (hs_wf : S wf = some (13800, 16)) (ewb : g a0 6 = .ref wb) (hs_wb : S wb = some (13900, 16)) (ews : g a0 7 = .ref ws) (hs_ws : S ws = some (14000, 100)) (hp0 : xFa (xv g a2) F) (hp1 : xTc9 (xv g wk) (xv g wn) (xv g wf) (xv g wb) (xv g ws) ln T) : xMt l yX10_tells cX10_tells 3 (some .int) 3 0 0 72 D kA b0 t0 [] [.ref a0, .int (iI x1), .ref a2] S g (fun (r : Option Value) (S1 : xT) (g1 : xG) => S = S1 ∧ g = g1 ∧ ∃ z : Int, r = some (.int (iI z)) ∧ 0 ≤ z ∧ z ≤ 1000 ∧ (z = xts9 T F x1)) := by
  refine xEnterI (by decide) (by simp [lg_sl, Value.category]) [(0, .ref a0), (1, .int (iI x1)), (2, .ref a2)] rfl ?_
  intro K E hK hret _ _ _
  refine X_aloadn hK (i := 0) 0 kd32_1.2.2.2.2.2.2.2.2.2.1 rfl rfl ?_
  refine X_aloadn hK (i := 0) 0 kd32_1.2.2.2.2.2.2.2.2.2.2.1 rfl rfl ?_
  refine X_iloadn hK (i := 1) 1 kd32_1.2.2.2.2.2.2.2.2.2.2.2 rfl rfl ?_
  refine X_aloadn hK (i := 2) 2 kd32_2.1 rfl rfl ?_
  refine X_callV hK [.int (iI x1), .ref a2] [.ref a0] lk_X10_50 (m_lineFor _ _ _ _ _ S g a0 x1 a2 ln wk wn wf wb ws F T hs_a0 (by omega) hs_a2 (by omega) eln ewk hs_wk ewn hs_wn ewf hs_wf ewb hs_wb ews hs_ws hp0 hp1) hs_a0 ⟨by decide, rfl⟩ kd32_2.2.1 rfl rfl (by simp [Value.category]) (by decide) (by decide) (by decide) (by decide) (fun r1 S3 g2 pr1 qr1 hg2 => ?_)
  obtain ⟨rfl, rfl, z4, rfl, lz4, uz4, k5⟩ := pr1
  refine X_st [.int (iI z4), .ref a0] rfl ?_
  have lr6 := xlf9.r (F := F) (w := x1) T 0 (Int.le_refl _)
  have llr6 := hp1.1
  refine X_iloadn hK (i := 1) 1 kd32_2.2.2.1 rfl rfl ?_
  refine X_callV hK [.int (iI z4), .int (iI x1)] [] lk_X10_54 (m_numberOf _ _ _ _ _ S g a0 z4 x1 ln wk wn wf wb ws T hs_a0 (by omega) (by omega) (by omega) eln ewk hs_wk ewn hs_wn ewf hs_wf ewb hs_wb ews hs_ws hp1 (by have h9 := lr6; rw [← k5] at h9; omega)) hs_a0 ⟨by decide, rfl⟩ kd32_2.2.2.2.1 rfl rfl (by simp [Value.category]) (by decide) (by decide) (by decide) (by decide) (fun r7 S9 g8 pr7 qr7 hg8 => ?_)
  obtain ⟨rfl, rfl, z10, rfl, lz10, uz10, k11⟩ := pr7
  refine X_st [.int (iI z10)] rfl ?_
  exact hret _ _ _ _ _ _ _ kd32_2.2.2.2.2.1 ⟨rfl, rfl, z10, rfl, (by omega), (by omega), (by unfold xts9; rw [← k5]; exact k11)⟩ (Nat.le_refl _) (Nat.le_refl _)
