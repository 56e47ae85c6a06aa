
def xFb (F : Int → Int) : Prop := ∀ i, 0 ≤ i → i < 3 → F i = 0 ∨ F i = 1
def xLm (pc ps pn : Int → Int) (b : Int) (c : List xS3) : Prop := ∀ j : Int, 0 ≤ j → j < c.length → pc (b + j) = (c.getD j.toNat (0, 0, 0)).1 ∧ ((c.getD j.toNat (0, 0, 0)).1 < 3 → (c.getD j.toNat (0, 0, 0)).2.1 = 2 ∧ (c.getD j.toNat (0, 0, 0)).2.2 = 0) ∧ (3 ≤ (c.getD j.toNat (0, 0, 0)).1 → (c.getD j.toNat (0, 0, 0)).1 ≤ 11 → ps (b + j) = 60 + (c.getD j.toNat (0, 0, 0)).2.1 ∧ pn (b + j) = (c.getD j.toNat (0, 0, 0)).2.2)
def xTm9 (so am cf ct pc ps pn : Int → Int) (t ln : Int) (T : List xL3) : Prop := ln = T.length ∧ ln ≤ 16 ∧ ∀ i : Int, 0 ≤ i → i < ln → so (16 * t + i) = (xgl9 T i.toNat).1 ∧ am (16 * t + i) = (xgl9 T i.toNat).2.1 ∧ 0 ≤ cf (16 * t + i) ∧ ct (16 * t + i) = cf (16 * t + i) + (xgl9 T i.toNat).2.2.length ∧ ct (16 * t + i) ≤ 120 ∧ xLm pc ps pn (120 * t + cf (16 * t + i)) (xgl9 T i.toNat).2.2 ∧ xln9 (xgl9 T i.toNat)
theorem xatm.f {F : Int → Int} {x : xS3} {v z : Int} (hb : xFb F) (h0 : 0 ≤ x.1 ∧ x.1 < 3) (e : x.2.1 = 2 ∧ x.2.2 = 0) (hv : v = F x.1) (hz : (z = 1 ∧ v = 1) ∨ (z = 0 ∧ v ≠ 1)) : z = xbi (xat9 F x) := by
  have b := hb x.1 h0.1 h0.2
  have k : xat9 F x = decide (0 < F x.1) := by
    unfold xat9
    rw [e.1, e.2, if_neg (show ¬ ((2 : Int) = 0) by decide), if_pos rfl]
  unfold xbi
  rw [k]
  by_cases c : 0 < F x.1
  · rw [if_pos (decide_eq_true c)]; omega
  · rw [if_neg (by rw [decide_eq_true_eq]; exact c)]; omega
theorem xatm.c {F : Int → Int} {x : xS3} {v s n z : Int} (hw : xwf9 x) (hs : s = 60 + x.2.1) (hn : n = x.2.2) (hv : v = F x.1) (hz : (z = 1 ∧ ((s = 60 ∧ v < n) ∨ (s = 61 ∧ v = n) ∨ (s ≠ 60 ∧ s ≠ 61 ∧ n < v))) ∨ (z = 0 ∧ ((s = 60 ∧ ¬ v < n) ∨ (s = 61 ∧ v ≠ n) ∨ (s ≠ 60 ∧ s ≠ 61 ∧ ¬ n < v)))) : z = xbi (xat9 F x) := by
  unfold xwf9 at hw
  unfold xat9 xbi
  rw [← hv, ← hn]
  by_cases c0 : x.2.1 = 0
  · rw [if_pos c0]
    by_cases c : v < n
    · rw [if_pos (decide_eq_true c)]; omega
    · rw [if_neg (by rw [decide_eq_true_eq]; exact c)]; omega
  · rw [if_neg c0]
    by_cases c2 : x.2.1 = 2
    · rw [if_pos c2]
      by_cases c : n < v
      · rw [if_pos (decide_eq_true c)]; omega
      · rw [if_neg (by rw [decide_eq_true_eq]; exact c)]; omega
    · rw [if_neg c2]
      by_cases c : v = n
      · rw [if_pos (decide_eq_true c)]; omega
      · rw [if_neg (by rw [decide_eq_true_eq]; exact c)]; omega
theorem xhv.e {F : Int → Int} {c : List xS3} {n r v : Int} {val : Int → Int} (h : (n = 0 ∧ xhl9 F c = true) ∨ (n = 1 ∧ val 0 = xbi (xhl9 F c))) (hr : (n = 0 ∧ r = 1) ∨ (n ≠ 0 ∧ v = val 0 ∧ ((v ≠ 0 ∧ r = 1) ∨ (v = 0 ∧ r = 0)))) : r = 1 ↔ xhl9 F c = true := by
  rcases h with ⟨a, b⟩ | ⟨a, b⟩
  · exact ⟨fun _ => b, fun _ => by omega⟩
  · cases e : xhl9 F c
    · rw [e] at b
      have b' : val 0 = 0 := b
      exact ⟨fun q => by omega, fun q => by cases q⟩
    · rw [e] at b
      have b' : val 0 = 1 := b
      exact ⟨fun _ => rfl, fun _ => by omega⟩
def xTQ (lo so am cf ct pc ps pn : Int → Int) (t : Int) (T : List xL3) : Prop := (t = -1 ∧ T = []) ∨ (t ≠ -1 ∧ xTm9 so am cf ct pc ps pn t (lo t) T)
set_option maxHeartbeats 4000000 in
set_option maxRecDepth 100000 in
theorem m_usual (l : Launch) (D : va_G) (kA : Nat → ClassId) (b0 : Nat) (t0 : Nat → Nat) (S : xT) (g : xG) (x0 : Int) (hx0 : 0 ≤ x0 ∧ x0 ≤ 5) : xMt l yX12_usual cX12_usual 1 (some .int) 0 0 0 0 D kA b0 t0 [] [.int (iI x0)] S g (fun (r : Option Value) (S1 : xT) (g1 : xG) => S = S1 ∧ g = g1 ∧ ∃ z : Int, r = some (.int (iI z)) ∧ 0 ≤ z ∧ z ≤ 200 ∧ (z = xdf9 x0)) := by
  refine xEnterI (by decide) (by simp [lg_sl, Value.category]) [(0, .int (iI x0))] rfl ?_
  intro K E hK hret _ _ _
  refine X_iloadn hK (i := 0) 0 kd20_22.2.2.1 rfl rfl ?_
  rcases (show (x0 < 0 ∨ 4 < x0) ∨ x0 = 0 ∨ x0 = 1 ∨ x0 = 2 ∨ x0 = 3 ∨ x0 = 4 by omega) with c1 | c1 | c1 | c1 | c1 | c1
  · refine X_tableOut hK 49 (by omega) c1 kd20_22.2.2.2.1 (by decide) ?_
    refine X_bipush hK kd20_23.2.2.1 (by decide) ?_
    exact hret _ _ _ _ _ _ _ kd20_23.2.2.2.1 ⟨rfl, rfl, 100, rfl, (by omega), (by omega), (by unfold xdf9; (repeat' split) <;> omega)⟩ (Nat.le_refl _) (Nat.le_refl _)
  · refine X_tableIn hK 36 0 (by decide) c1 (by decide) (by decide) kd20_22.2.2.2.1 rfl (by decide) ?_
    refine X_bipush hK kd20_22.2.2.2.2.1 (by decide) ?_
    exact hret _ _ _ _ _ _ _ kd20_22.2.2.2.2.2.1 ⟨rfl, rfl, 60, rfl, (by omega), (by omega), (by unfold xdf9; (repeat' split) <;> omega)⟩ (Nat.le_refl _) (Nat.le_refl _)
  · refine X_tableIn hK 39 1 (by decide) c1 (by decide) (by decide) kd20_22.2.2.2.1 rfl (by decide) ?_
    refine X_iconst hK kd20_22.2.2.2.2.2.2.1 ?_
    exact hret _ _ _ _ _ _ _ kd20_22.2.2.2.2.2.2.2.1 ⟨rfl, rfl, 1, rfl, (by omega), (by omega), (by unfold xdf9; (repeat' split) <;> omega)⟩ (Nat.le_refl _) (Nat.le_refl _)
  · refine X_tableIn hK 41 2 (by decide) c1 (by decide) (by decide) kd20_22.2.2.2.1 rfl (by decide) ?_
    refine X_iconst hK kd20_22.2.2.2.2.2.2.2.2.1 ?_
    exact hret _ _ _ _ _ _ _ kd20_22.2.2.2.2.2.2.2.2.2.1 ⟨rfl, rfl, 0, rfl, (by omega), (by omega), (by unfold xdf9; (repeat' split) <;> omega)⟩ (Nat.le_refl _) (Nat.le_refl _)
  · refine X_tableIn hK 43 3 (by decide) c1 (by decide) (by decide) kd20_22.2.2.2.1 rfl (by decide) ?_
    refine X_sipush hK kd20_22.2.2.2.2.2.2.2.2.2.2.1 (by decide) ?_
    exact hret _ _ _ _ _ _ _ kd20_22.2.2.2.2.2.2.2.2.2.2.2 ⟨rfl, rfl, 200, rfl, (by omega), (by omega), (by unfold xdf9; (repeat' split) <;> omega)⟩ (Nat.le_refl _) (Nat.le_refl _)
  · refine X_tableIn hK 47 4 (by decide) c1 (by decide) (by decide) kd20_22.2.2.2.1 rfl (by decide) ?_
    refine X_iconst hK kd20_23.1 ?_
    exact hret _ _ _ _ _ _ _ kd20_23.2.1 ⟨rfl, rfl, 1, rfl, (by omega), (by omega), (by unfold xdf9; (repeat' split) <;> omega)⟩ (Nat.le_refl _) (Nat.le_refl _)

set_option maxHeartbeats 4000000 in
set_option maxRecDepth 100000 in
theorem m_mholds (l : Launch) (D : va_G) (kA : Nat → ClassId) (b0 : Nat) (t0 : Nat → Nat) (S : xT) (g : xG) (a0 : Nat) (x1 : Int) (x2 : Int) (x3 : Int) (wc : Nat) (wv : Nat) (wp : Nat) (wq : Nat) (wn : Nat) (F : Int → Int) (c : List xS3) (hs_a0 : S a0 = some (13, 0)) (hx1 : 0 ≤ x1 ∧ x1 ≤ 10) (hx2 : 0 ≤ x2 ∧ x2 ≤ 120) (hx3 : 0 ≤ x3 ∧ x3 ≤ 120) (ewc : g a0 45 = .ref wc) (hs_wc : S wc = some (16300, 12)) (ewv : g a0 46 = .ref wv) (hs_wv : S wv = some (19401, 64)) (ewp : g a0 35 = .ref wp) (hs_wp : S wp = some (15900, 1320)) (ewq : g a0 36 = .ref wq) (hs_wq : S wq = some (16000, 1320)) (ewn : g a0 37 = .ref wn) (hs_wn : S wn = some (16100, 1320)) (hp0 : xFa (xv g wc) F) (hp1 : xFb F) (hp2 : xLm (xv g wp) (xv g wq) (xv g wn) (120 * x1 + x2) c) (hp3 : x3 = x2 + c.length) (hp4 : xck9 c) : xMt l yX12_holds cX12_holds 10 (some .boolean) 0 0 0 0 D kA b0 t0 [(19401, 0)] [.ref a0, .int (iI x1), .int (iI x2), .int (iI x3)] S g (fun (r : Option Value) (S1 : xT) (g1 : xG) => S = S1 ∧ ∃ z : Int, r = some (.int (iI z)) ∧ 0 ≤ z ∧ z ≤ 1 ∧ ((z = 1 ↔ xhl9 F c = true))) := by
  refine xEnterZ (by decide) (by simp [lg_sl, Value.category]) [(0, .ref a0), (1, .int (iI x1)), (2, .int (iI x2)), (3, .int (iI x3))] rfl ?_
  intro K E hK hret _ _ _
  refine X_iconst hK kd53_34.2.2.1 ?_
  refine X_istore hK (i := 4) [(4, .int (iI 0)), (0, .ref a0), (1, .int (iI x1)), (2, .int (iI x2)), (3, .int (iI x3))] kd53_34.2.2.2.1 (by decide) rfl ?_
  refine X_iloadn hK (i := 2) 3 kd53_34.2.2.2.2.1 rfl rfl ?_
  refine X_istore hK (i := 5) [(5, .int (iI x2)), (4, .int (iI 0)), (0, .ref a0), (1, .int (iI x1)), (2, .int (iI x2)), (3, .int (iI x3))] kd53_34.2.2.2.2.2.1 (by decide) rfl ?_
  have P255 : ∀ (nP255 : Nat) (g206 : xG) (_ : xM [(19401, 0)] S g g206) (z204 : Int) (_ : 0 ≤ z204) (_ : z204 ≤ 120) (z205 : Int) (_ : 0 ≤ z205) (_ : z205 ≤ 23) (_ : xHv F c (z204 - x2).toNat z205 (xv g206 wv)) (_ : x2 ≤ z204 ∧ z204 ≤ x3) (_ : 200 - z204 < (nP255 : Int)), X K E 6 [(5, .int (iI z204)), (4, .int (iI z205)), (0, .ref a0), (1, .int (iI x1)), (2, .int (iI x2)), (3, .int (iI x3))] [] S g206 0 0 := by
    intro nP255
    induction nP255 with
    | zero => intro g206 hg206 z204 lz204 uz204 z205 lz205 uz205 v256 v257 mP255; exact False.elim (by omega)
    | succ nP255 ihP255 =>
      intro g206 hg206 z204 lz204 uz204 z205 lz205 uz205 v256 v257 mP255
      refine X_iload hK (i := 5) 0 kd53_34.2.2.2.2.2.2.1 rfl ?_
      have hb9 := xHv.b v256
      refine X_iloadn hK (i := 3) 5 kd53_34.2.2.2.2.2.2.2.1 rfl rfl ?_
      refine X_icmp_ge hK 284 (by omega) (by omega) kd53_34.2.2.2.2.2.2.2.2.1 (by decide) (fun c258 => ?_) (fun c258 => ?_)
      · refine X_iload hK (i := 4) 1 kd53_46.2.2.2.2.2.2.1 rfl ?_
        refine X_if_eq hK 298 (by omega) kd53_46.2.2.2.2.2.2.2.1 (by decide) (fun c259 => ?_) (fun c259 => ?_)
        · refine X_iconst hK kd53_47.2.1 ?_
          refine X_goto hK 303 kd53_47.2.2.1 (by decide) ?_
          exact hret _ _ _ _ _ _ _ kd53_47.2.2.2.2.1 (by omega) (by omega) ⟨rfl, 1, rfl, (by omega), (by omega), (xhv.e (v := 0) (xHv.end (F := F) (c := c) (by have h8 := v256; rw [show (z204 - x2).toNat = c.length by omega] at h8; exact h8) (hp4.or F)) (Or.inl ⟨by omega, rfl⟩))⟩ (Nat.le_refl _) (Nat.le_refl _)
        · refine X_aloadn hK (i := 0) 2 kd53_46.2.2.2.2.2.2.2.2.1 rfl rfl ?_
          refine X_getK hK fl_X12_83_13 hs_a0 ((hg206 a0 13 0 46 hs_a0 (by decide)).trans ewv) kd53_46.2.2.2.2.2.2.2.2.2.1 ?_
          refine X_iconst hK kd53_46.2.2.2.2.2.2.2.2.2.2.1 ?_
          refine X_zald hK hs_wv (by decide) sl_19401 (by omega) (by omega) kd53_46.2.2.2.2.2.2.2.2.2.2.2 (fun z260 ez260 lz260 uz260 => ?_)
          have hw261 : xv g206 wv 0 = z260 := (xv_e (j := 0) ez260 (by omega))
          refine X_if_eq hK 302 (by omega) kd53_47.1 (by decide) (fun c262 => ?_) (fun c262 => ?_)
          · refine X_iconst hK kd53_47.2.2.2.1 ?_
            exact hret _ _ _ _ _ _ _ kd53_47.2.2.2.2.1 (by omega) (by omega) ⟨rfl, 0, rfl, (by omega), (by omega), (xhv.e (v := z260) (xHv.end (F := F) (c := c) (by have h8 := v256; rw [show (z204 - x2).toNat = c.length by omega] at h8; exact h8) (hp4.or F)) (Or.inr ⟨by omega, hw261.symm, by omega⟩))⟩ (Nat.le_refl _) (Nat.le_refl _)
          · refine X_iconst hK kd53_47.2.1 ?_
            refine X_goto hK 303 kd53_47.2.2.1 (by decide) ?_
            exact hret _ _ _ _ _ _ _ kd53_47.2.2.2.2.1 (by omega) (by omega) ⟨rfl, 1, rfl, (by omega), (by omega), (xhv.e (v := z260) (xHv.end (F := F) (c := c) (by have h8 := v256; rw [show (z204 - x2).toNat = c.length by omega] at h8; exact h8) (hp4.or F)) (Or.inr ⟨by omega, hw261.symm, by omega⟩))⟩ (Nat.le_refl _) (Nat.le_refl _)
      · refine X_bipush hK kd53_34.2.2.2.2.2.2.2.2.2.1 (by decide) ?_
        refine X_iloadn hK (i := 1) 3 kd53_34.2.2.2.2.2.2.2.2.2.2.1 rfl rfl ?_
        refine X_imul hK kd53_34.2.2.2.2.2.2.2.2.2.2.2 ?_
        refine X_iload hK (i := 5) 0 kd53_35.1 rfl ?_
        refine X_iadd hK kd53_35.2.1 ?_
        refine X_istore hK (i := 6) [(6, .int (iI ((120 * x1) + z204))), (5, .int (iI z204)), (4, .int (iI z205)), (0, .ref a0), (1, .int (iI x1)), (2, .int (iI x2)), (3, .int (iI x3))] kd53_35.2.2.1 (by decide) rfl ?_
        refine X_aloadn hK (i := 0) 3 kd53_35.2.2.2.1 rfl rfl ?_
        refine X_getK hK fl_X12_68_13 hs_a0 ((hg206 a0 13 0 35 hs_a0 (by decide)).trans ewp) kd53_35.2.2.2.2.1 ?_
        refine X_iload hK (i := 6) 0 kd53_35.2.2.2.2.2.1 rfl ?_
        refine X_iald hK hs_wp (by decide) sl_15900 (by omega) (by omega) kd53_35.2.2.2.2.2.2.1 (fun z263 ez263 lz263 uz263 => ?_)
        have hw264 : xv g wp ((120 * x1) + z204) = z263 := (by rw [← (xv_m hg206 hs_wp (by decide) (by decide))]; exact (xv_e (j := ((120 * x1) + z204)) ez263 (by omega)))
        have hj9 := hp2 (z204 - x2) (by omega) (by omega)
        rw [show 120 * x1 + x2 + (z204 - x2) = (120 * x1) + z204 by omega] at hj9
        have hm9 : z263 = (c.getD (z204 - x2).toNat (0, 0, 0)).1 := by rw [← hj9.1]; exact hw264.symm
        have hw9 := hp4.2 (z204 - x2).toNat (by omega)
        have hq9 := hw9.2.1
        have hq8 := hw9.1
        have hk9 := hp4.ok (F := F) (show 0 < c.length by omega)
        refine X_istore hK (i := 7) [(7, .int (iI z263)), (6, .int (iI ((120 * x1) + z204))), (5, .int (iI z204)), (4, .int (iI z205)), (0, .ref a0), (1, .int (iI x1)), (2, .int (iI x2)), (3, .int (iI x3))] kd53_35.2.2.2.2.2.2.2.1 (by decide) rfl ?_
        refine X_iload hK (i := 7) 0 kd53_35.2.2.2.2.2.2.2.2.1 rfl ?_
        refine X_bipush hK kd53_35.2.2.2.2.2.2.2.2.2.1 (by decide) ?_
        refine X_icmp_ne hK 66 (by omega) (by omega) kd53_35.2.2.2.2.2.2.2.2.2.2.1 (by decide) (fun c265 => ?_) (fun c265 => ?_)
        · refine X_iload hK (i := 7) 0 kd53_37.2.2.2.2.1 rfl ?_
          refine X_bipush hK kd53_37.2.2.2.2.2.1 (by decide) ?_
          refine X_icmp_eq hK 80 (by omega) (by omega) kd53_37.2.2.2.2.2.2.1 (by decide) (fun c266 => ?_) (fun c266 => ?_)
          · refine X_iinc hK (i := 4) (z := z205) (n := (-1)) 3 [(4, .int (iI (z205 + (-1)))), (7, .int (iI z263)), (6, .int (iI ((120 * x1) + z204))), (5, .int (iI z204)), (0, .ref a0), (1, .int (iI x1)), (2, .int (iI x2)), (3, .int (iI x3))] kd53_37.2.2.2.2.2.2.2.2.2.2.1 rfl (by decide) rfl ?_
            have hn9 := xHv.two v256 hk9 (by omega) (by omega)
            have hn8 := hn9.1
            refine X_aloadn hK (i := 0) 4 kd53_37.2.2.2.2.2.2.2.2.2.2.2 rfl rfl ?_
            refine X_getK hK fl_X12_83_13 hs_a0 ((hg206 a0 13 0 46 hs_a0 (by decide)).trans ewv) kd53_38.1 ?_
            refine X_iload hK (i := 4) 0 kd53_38.2.1 rfl ?_
            refine X_iconst hK kd53_38.2.2.1 ?_
            refine X_isub hK kd53_38.2.2.2.1 ?_
            refine X_iload hK (i := 7) 1 kd53_38.2.2.2.2.1 rfl ?_
            refine X_bipush hK kd53_38.2.2.2.2.2.1 (by decide) ?_
            refine X_icmp_ne hK 128 (by omega) (by omega) kd53_38.2.2.2.2.2.2.1 (by decide) (fun c267 => False.elim (by omega)) (fun c267 => ?_)
            refine X_aloadn hK (i := 0) 4 kd53_38.2.2.2.2.2.2.2.1 rfl rfl ?_
            refine X_getK hK fl_X12_83_13 hs_a0 ((hg206 a0 13 0 46 hs_a0 (by decide)).trans ewv) kd53_38.2.2.2.2.2.2.2.2.1 ?_
            refine X_iload hK (i := 4) 0 kd53_38.2.2.2.2.2.2.2.2.2.1 rfl ?_
            refine X_iconst hK kd53_38.2.2.2.2.2.2.2.2.2.2.1 ?_
            refine X_isub hK kd53_38.2.2.2.2.2.2.2.2.2.2.2 ?_
            refine X_zald hK hs_wv (by decide) sl_19401 (by omega) (by omega) kd53_39.1 (fun z268 ez268 lz268 uz268 => ?_)
            have hw269 : xv g206 wv ((z205 + (-1)) - 1) = z268 := (xv_e (j := ((z205 + (-1)) - 1)) ez268 (by omega))
            have hv270 : xv g206 wv (z205 - 2) = z268 := by rw [show z205 - 2 = ((z205 + (-1)) - 1) by omega]; exact hw269
            refine X_if_eq hK 124 (by omega) kd53_39.2.1 (by decide) (fun c271 => ?_) (fun c271 => ?_)
            · refine X_iconst hK kd53_39.2.2.2.2.2.2.2.2.2.1 ?_
              refine X_goto hK 155 kd53_39.2.2.2.2.2.2.2.2.2.2.1 (by decide) ?_
              refine X_zast hK hs_wv (by decide) (by decide) sl_19401 (by omega) (by omega) (by omega) (by omega) kd53_41.2.2.1 (fun g272 hg272 => ?_)
              refine X_goto hK 278 kd53_41.2.2.2.1 (by decide) ?_
              refine X_iinc hK (i := 5) (z := z204) (n := 1) 3 [(5, .int (iI (z204 + 1))), (4, .int (iI (z205 + (-1)))), (7, .int (iI z263)), (6, .int (iI ((120 * x1) + z204))), (0, .ref a0), (1, .int (iI x1)), (2, .int (iI x2)), (3, .int (iI x3))] kd53_46.2.2.2.2.1 rfl (by decide) rfl ?_
              refine X_goto hK 6 kd53_46.2.2.2.2.2.1 (by decide) ?_
              refine X_lv [(5, .int (iI (z204 + 1))), (4, .int (iI (z205 + (-1)))), (0, .ref a0), (1, .int (iI x1)), (2, .int (iI x2)), (3, .int (iI x3))] [0, 1, 4, 5, 6, 7] rfl ?_
              exact ihP255  g272 (xM_ua (xM.tr xM.rf xLe.rf hg206 (by decide)) hg272 hs_wv (by decide) (by decide)) (z204 + 1) (by omega) (by omega) (z205 + (-1)) (by omega) (by omega) (by have h9 := (hn9.2.2.2 _ ⟨fun c9 => by rw [(show xv g272 wv (z205 - 2) = 0 from by rw [show z205 - 2 = ((z205 + (-1)) - 1) by omega]; exact (show xv g272 wv ((z205 + (-1)) - 1) = 0 from by rw [xv_s hg272 (by omega)]))]; have h7 := hn9.2.1; have h6 := hn9.2.2.1; have h50 := hv270; omega, fun c9 => by rw [(show xv g272 wv (z205 - 2) = 0 from by rw [show z205 - 2 = ((z205 + (-1)) - 1) by omega]; exact (show xv g272 wv ((z205 + (-1)) - 1) = 0 from by rw [xv_s hg272 (by omega)]))]; have h7 := hn9.2.1; have h6 := hn9.2.2.1; have h50 := hv270; omega⟩ (by rw [(show xv g272 wv (z205 - 2) = 0 from by rw [show z205 - 2 = ((z205 + (-1)) - 1) by omega]; exact (show xv g272 wv ((z205 + (-1)) - 1) = 0 from by rw [xv_s hg272 (by omega)]))]; omega) (fun i9 r1 r2 => (show xv g272 wv i9 = xv g206 wv i9 from by rw [(xv_k (i := i9) hg272 (by omega) (by omega) (by omega))]))); rw [show (z204 - x2).toNat + 1 = (z204 + 1 - x2).toNat by omega] at h9; exact h9) (by omega) (by omega)
            · refine X_aloadn hK (i := 0) 4 kd53_39.2.2.1 rfl rfl ?_
              refine X_getK hK fl_X12_83_13 hs_a0 ((hg206 a0 13 0 46 hs_a0 (by decide)).trans ewv) kd53_39.2.2.2.1 ?_
              refine X_iload hK (i := 4) 0 kd53_39.2.2.2.2.1 rfl ?_
              refine X_zald hK hs_wv (by decide) sl_19401 (by omega) (by omega) kd53_39.2.2.2.2.2.1 (fun z273 ez273 lz273 uz273 => ?_)
              have hw274 : xv g206 wv (z205 + (-1)) = z273 := (xv_e (j := (z205 + (-1))) ez273 (by omega))
              have hv275 : xv g206 wv (z205 - 1) = z273 := by rw [show z205 - 1 = (z205 + (-1)) by omega]; exact hw274
              refine X_if_eq hK 124 (by omega) kd53_39.2.2.2.2.2.2.1 (by decide) (fun c276 => ?_) (fun c276 => ?_)
              · refine X_iconst hK kd53_39.2.2.2.2.2.2.2.2.2.1 ?_
                refine X_goto hK 155 kd53_39.2.2.2.2.2.2.2.2.2.2.1 (by decide) ?_
                refine X_zast hK hs_wv (by decide) (by decide) sl_19401 (by omega) (by omega) (by omega) (by omega) kd53_41.2.2.1 (fun g277 hg277 => ?_)
                refine X_goto hK 278 kd53_41.2.2.2.1 (by decide) ?_
                refine X_iinc hK (i := 5) (z := z204) (n := 1) 3 [(5, .int (iI (z204 + 1))), (4, .int (iI (z205 + (-1)))), (7, .int (iI z263)), (6, .int (iI ((120 * x1) + z204))), (0, .ref a0), (1, .int (iI x1)), (2, .int (iI x2)), (3, .int (iI x3))] kd53_46.2.2.2.2.1 rfl (by decide) rfl ?_
                refine X_goto hK 6 kd53_46.2.2.2.2.2.1 (by decide) ?_
                refine X_lv [(5, .int (iI (z204 + 1))), (4, .int (iI (z205 + (-1)))), (0, .ref a0), (1, .int (iI x1)), (2, .int (iI x2)), (3, .int (iI x3))] [0, 1, 4, 5, 6, 7] rfl ?_
                exact ihP255  g277 (xM_ua (xM.tr xM.rf xLe.rf hg206 (by decide)) hg277 hs_wv (by decide) (by decide)) (z204 + 1) (by omega) (by omega) (z205 + (-1)) (by omega) (by omega) (by have h9 := (hn9.2.2.2 _ ⟨fun c9 => by rw [(show xv g277 wv (z205 - 2) = 0 from by rw [show z205 - 2 = ((z205 + (-1)) - 1) by omega]; exact (show xv g277 wv ((z205 + (-1)) - 1) = 0 from by rw [xv_s hg277 (by omega)]))]; have h7 := hn9.2.1; have h6 := hn9.2.2.1; have h50 := hv270; have h51 := hv275; omega, fun c9 => by rw [(show xv g277 wv (z205 - 2) = 0 from by rw [show z205 - 2 = ((z205 + (-1)) - 1) by omega]; exact (show xv g277 wv ((z205 + (-1)) - 1) = 0 from by rw [xv_s hg277 (by omega)]))]; have h7 := hn9.2.1; have h6 := hn9.2.2.1; have h50 := hv270; have h51 := hv275; omega⟩ (by rw [(show xv g277 wv (z205 - 2) = 0 from by rw [show z205 - 2 = ((z205 + (-1)) - 1) by omega]; exact (show xv g277 wv ((z205 + (-1)) - 1) = 0 from by rw [xv_s hg277 (by omega)]))]; omega) (fun i9 r1 r2 => (show xv g277 wv i9 = xv g206 wv i9 from by rw [(xv_k (i := i9) hg277 (by omega) (by omega) (by omega))]))); rw [show (z204 - x2).toNat + 1 = (z204 + 1 - x2).toNat by omega] at h9; exact h9) (by omega) (by omega)
              · refine X_iconst hK kd53_39.2.2.2.2.2.2.2.1 ?_
                refine X_goto hK 155 kd53_39.2.2.2.2.2.2.2.2.1 (by decide) ?_
                refine X_zast hK hs_wv (by decide) (by decide) sl_19401 (by omega) (by omega) (by omega) (by omega) kd53_41.2.2.1 (fun g278 hg278 => ?_)
                refine X_goto hK 278 kd53_41.2.2.2.1 (by decide) ?_
                refine X_iinc hK (i := 5) (z := z204) (n := 1) 3 [(5, .int (iI (z204 + 1))), (4, .int (iI (z205 + (-1)))), (7, .int (iI z263)), (6, .int (iI ((120 * x1) + z204))), (0, .ref a0), (1, .int (iI x1)), (2, .int (iI x2)), (3, .int (iI x3))] kd53_46.2.2.2.2.1 rfl (by decide) rfl ?_
                refine X_goto hK 6 kd53_46.2.2.2.2.2.1 (by decide) ?_
                refine X_lv [(5, .int (iI (z204 + 1))), (4, .int (iI (z205 + (-1)))), (0, .ref a0), (1, .int (iI x1)), (2, .int (iI x2)), (3, .int (iI x3))] [0, 1, 4, 5, 6, 7] rfl ?_
                exact ihP255  g278 (xM_ua (xM.tr xM.rf xLe.rf hg206 (by decide)) hg278 hs_wv (by decide) (by decide)) (z204 + 1) (by omega) (by omega) (z205 + (-1)) (by omega) (by omega) (by have h9 := (hn9.2.2.2 _ ⟨fun c9 => by rw [(show xv g278 wv (z205 - 2) = 1 from by rw [show z205 - 2 = ((z205 + (-1)) - 1) by omega]; exact (show xv g278 wv ((z205 + (-1)) - 1) = 1 from by rw [xv_s hg278 (by omega)]))]; have h7 := hn9.2.1; have h6 := hn9.2.2.1; have h50 := hv270; have h51 := hv275; omega, fun c9 => by rw [(show xv g278 wv (z205 - 2) = 1 from by rw [show z205 - 2 = ((z205 + (-1)) - 1) by omega]; exact (show xv g278 wv ((z205 + (-1)) - 1) = 1 from by rw [xv_s hg278 (by omega)]))]; have h7 := hn9.2.1; have h6 := hn9.2.2.1; have h50 := hv270; have h51 := hv275; omega⟩ (by rw [(show xv g278 wv (z205 - 2) = 1 from by rw [show z205 - 2 = ((z205 + (-1)) - 1) by omega]; exact (show xv g278 wv ((z205 + (-1)) - 1) = 1 from by rw [xv_s hg278 (by omega)]))]; omega) (fun i9 r1 r2 => (show xv g278 wv i9 = xv g206 wv i9 from by rw [(xv_k (i := i9) hg278 (by omega) (by omega) (by omega))]))); rw [show (z204 - x2).toNat + 1 = (z204 + 1 - x2).toNat by omega] at h9; exact h9) (by omega) (by omega)
          · refine X_iload hK (i := 7) 0 kd53_37.2.2.2.2.2.2.2.1 rfl ?_
            refine X_bipush hK kd53_37.2.2.2.2.2.2.2.2.1 (by decide) ?_
            refine X_icmp_ne hK 159 (by omega) (by omega) kd53_37.2.2.2.2.2.2.2.2.2.1 (by decide) (fun c279 => ?_) (fun c279 => ?_)
            · refine X_aloadn hK (i := 0) 4 kd53_41.2.2.2.2.1 rfl rfl ?_
              refine X_getK hK fl_X12_80_13 hs_a0 ((hg206 a0 13 0 45 hs_a0 (by decide)).trans ewc) kd53_41.2.2.2.2.2.1 ?_
              refine X_iload hK (i := 7) 0 kd53_41.2.2.2.2.2.2.1 rfl ?_
              refine X_iald hK hs_wc (by decide) sl_16300 (by omega) (by omega) kd53_41.2.2.2.2.2.2.2.1 (fun z280 ez280 lz280 uz280 => ?_)
              have hw281 : xv g wc z263 = z280 := (by rw [← (xv_m hg206 hs_wc (by decide) (by decide))]; exact (xv_e (j := z263) ez280 (by omega)))
              have fz282 : z280 = F (c.getD (z204 - x2).toNat (0, 0, 0)).1 := by rw [← hm9, ← hp0 z263 (by omega) (by omega)]; exact hw281.symm
              refine X_istore hK (i := 8) [(8, .int (iI z280)), (7, .int (iI z263)), (6, .int (iI ((120 * x1) + z204))), (5, .int (iI z204)), (4, .int (iI z205)), (0, .ref a0), (1, .int (iI x1)), (2, .int (iI x2)), (3, .int (iI x3))] kd53_41.2.2.2.2.2.2.2.2.1 (by decide) rfl ?_
              refine X_aloadn hK (i := 0) 5 kd53_41.2.2.2.2.2.2.2.2.2.1 rfl rfl ?_
              refine X_getK hK fl_X12_71_13 hs_a0 ((hg206 a0 13 0 36 hs_a0 (by decide)).trans ewq) kd53_41.2.2.2.2.2.2.2.2.2.2.1 ?_
              refine X_iload hK (i := 6) 2 kd53_41.2.2.2.2.2.2.2.2.2.2.2 rfl ?_
              refine X_iald hK hs_wq (by decide) sl_16000 (by omega) (by omega) kd53_42.1 (fun z283 ez283 lz283 uz283 => ?_)
              have hw284 : xv g wq ((120 * x1) + z204) = z283 := (by rw [← (xv_m hg206 hs_wq (by decide) (by decide))]; exact (xv_e (j := ((120 * x1) + z204)) ez283 (by omega)))
              refine X_istore hK (i := 9) [(9, .int (iI z283)), (8, .int (iI z280)), (7, .int (iI z263)), (6, .int (iI ((120 * x1) + z204))), (5, .int (iI z204)), (4, .int (iI z205)), (0, .ref a0), (1, .int (iI x1)), (2, .int (iI x2)), (3, .int (iI x3))] kd53_42.2.1 (by decide) rfl ?_
              refine X_aloadn hK (i := 0) 6 kd53_42.2.2.1 rfl rfl ?_
              refine X_getK hK fl_X12_83_13 hs_a0 ((hg206 a0 13 0 46 hs_a0 (by decide)).trans ewv) kd53_42.2.2.2.1 ?_
              refine X_iload hK (i := 4) 5 kd53_42.2.2.2.2.1 rfl ?_
              refine X_iload hK (i := 7) 2 kd53_42.2.2.2.2.2.1 rfl ?_
              refine X_iconst hK kd53_42.2.2.2.2.2.2.1 ?_
              refine X_icmp_ge hK 203 (by omega) (by omega) kd53_42.2.2.2.2.2.2.2.1 (by decide) (fun c285 => ?_) (fun c285 => ?_)
              · refine X_iload hK (i := 9) 0 kd53_43.2.2.2.1 rfl ?_
                refine X_bipush hK kd53_43.2.2.2.2.1 (by decide) ?_
                refine X_icmp_ne hK 230 (by omega) (by omega) kd53_43.2.2.2.2.2.1 (by decide) (fun c286 => ?_) (fun c286 => ?_)
                · refine X_iload hK (i := 9) 0 kd53_44.2.2.2.2.1 rfl ?_
                  refine X_bipush hK kd53_44.2.2.2.2.2.1 (by decide) ?_
                  refine X_icmp_ne hK 257 (by omega) (by omega) kd53_44.2.2.2.2.2.2.1 (by decide) (fun c287 => ?_) (fun c287 => ?_)
                  · refine X_iload hK (i := 8) 1 kd53_45.2.2.2.2.2.1 rfl ?_
                    refine X_aloadn hK (i := 0) 6 kd53_45.2.2.2.2.2.2.1 rfl rfl ?_
                    refine X_getK hK fl_X12_74_13 hs_a0 ((hg206 a0 13 0 37 hs_a0 (by decide)).trans ewn) kd53_45.2.2.2.2.2.2.2.1 ?_
                    refine X_iload hK (i := 6) 3 kd53_45.2.2.2.2.2.2.2.2.1 rfl ?_
                    refine X_iald hK hs_wn (by decide) sl_16100 (by omega) (by omega) kd53_45.2.2.2.2.2.2.2.2.2.1 (fun z288 ez288 lz288 uz288 => ?_)
                    have hw289 : xv g wn ((120 * x1) + z204) = z288 := (by rw [← (xv_m hg206 hs_wn (by decide) (by decide))]; exact (xv_e (j := ((120 * x1) + z204)) ez288 (by omega)))
                    refine X_icmp_le hK 273 (by omega) (by omega) kd53_45.2.2.2.2.2.2.2.2.2.2.1 (by decide) (fun c290 => ?_) (fun c290 => ?_)
                    · refine X_iconst hK kd53_46.2.1 ?_
                      refine X_zast hK hs_wv (by decide) (by decide) sl_19401 (by omega) (by omega) (by omega) (by omega) kd53_46.2.2.1 (fun g291 hg291 => ?_)
                      have at292 : 0 = xbi (xat9 F (c.getD (z204 - x2).toNat (0, 0, 0))) := xatm.c (s := z283) (n := z288) hw9 (by have h9 := (hj9.2.2 (by omega) (by omega)).1; rw [hw284] at h9; exact h9) (by have h9 := (hj9.2.2 (by omega) (by omega)).2; rw [hw289] at h9; exact h9) fz282 (by omega)
                      have hn293 : xHv F c ((z204 - x2).toNat + 1) (z205 + 1) (xv g291 wv) := xHv.at v256 hk9 (by omega) ⟨by omega, by omega, by omega⟩ (by rw [(show xv g291 wv z205 = 0 from by rw [xv_s hg291 (by omega)])]; exact at292) (fun i9 hi9 h09 => (show xv g291 wv i9 = xv g206 wv i9 from by rw [(xv_k (i := i9) hg291 (by omega) (by omega) (by omega))]))
                      have rhn293 := xHv.b hn293
                      refine X_iinc hK (i := 4) (z := z205) (n := 1) 5 [(4, .int (iI (z205 + 1))), (9, .int (iI z283)), (8, .int (iI z280)), (7, .int (iI z263)), (6, .int (iI ((120 * x1) + z204))), (5, .int (iI z204)), (0, .ref a0), (1, .int (iI x1)), (2, .int (iI x2)), (3, .int (iI x3))] kd53_46.2.2.2.1 rfl (by decide) rfl ?_
                      refine X_iinc hK (i := 5) (z := z204) (n := 1) 5 [(5, .int (iI (z204 + 1))), (4, .int (iI (z205 + 1))), (9, .int (iI z283)), (8, .int (iI z280)), (7, .int (iI z263)), (6, .int (iI ((120 * x1) + z204))), (0, .ref a0), (1, .int (iI x1)), (2, .int (iI x2)), (3, .int (iI x3))] kd53_46.2.2.2.2.1 rfl (by decide) rfl ?_
                      refine X_goto hK 6 kd53_46.2.2.2.2.2.1 (by decide) ?_
                      refine X_lv [(5, .int (iI (z204 + 1))), (4, .int (iI (z205 + 1))), (0, .ref a0), (1, .int (iI x1)), (2, .int (iI x2)), (3, .int (iI x3))] [0, 1, 6, 7, 8, 9] rfl ?_
                      exact ihP255  g291 (xM_ua (xM.tr xM.rf xLe.rf hg206 (by decide)) hg291 hs_wv (by decide) (by decide)) (z204 + 1) (by omega) (by omega) (z205 + 1) (by omega) (by omega) (by have h9 := (hn293); rw [show (z204 - x2).toNat + 1 = (z204 + 1 - x2).toNat by omega] at h9; exact h9) (by omega) (by omega)
                    · refine X_iconst hK kd53_45.2.2.2.2.2.2.2.2.2.2.2 ?_
                      refine X_goto hK 274 kd53_46.1 (by decide) ?_
                      refine X_zast hK hs_wv (by decide) (by decide) sl_19401 (by omega) (by omega) (by omega) (by omega) kd53_46.2.2.1 (fun g294 hg294 => ?_)
                      have at295 : 1 = xbi (xat9 F (c.getD (z204 - x2).toNat (0, 0, 0))) := xatm.c (s := z283) (n := z288) hw9 (by have h9 := (hj9.2.2 (by omega) (by omega)).1; rw [hw284] at h9; exact h9) (by have h9 := (hj9.2.2 (by omega) (by omega)).2; rw [hw289] at h9; exact h9) fz282 (by omega)
                      have hn296 : xHv F c ((z204 - x2).toNat + 1) (z205 + 1) (xv g294 wv) := xHv.at v256 hk9 (by omega) ⟨by omega, by omega, by omega⟩ (by rw [(show xv g294 wv z205 = 1 from by rw [xv_s hg294 (by omega)])]; exact at295) (fun i9 hi9 h09 => (show xv g294 wv i9 = xv g206 wv i9 from by rw [(xv_k (i := i9) hg294 (by omega) (by omega) (by omega))]))
                      have rhn296 := xHv.b hn296
                      refine X_iinc hK (i := 4) (z := z205) (n := 1) 5 [(4, .int (iI (z205 + 1))), (9, .int (iI z283)), (8, .int (iI z280)), (7, .int (iI z263)), (6, .int (iI ((120 * x1) + z204))), (5, .int (iI z204)), (0, .ref a0), (1, .int (iI x1)), (2, .int (iI x2)), (3, .int (iI x3))] kd53_46.2.2.2.1 rfl (by decide) rfl ?_
                      refine X_iinc hK (i := 5) (z := z204) (n := 1) 5 [(5, .int (iI (z204 + 1))), (4, .int (iI (z205 + 1))), (9, .int (iI z283)), (8, .int (iI z280)), (7, .int (iI z263)), (6, .int (iI ((120 * x1) + z204))), (0, .ref a0), (1, .int (iI x1)), (2, .int (iI x2)), (3, .int (iI x3))] kd53_46.2.2.2.2.1 rfl (by decide) rfl ?_
                      refine X_goto hK 6 kd53_46.2.2.2.2.2.1 (by decide) ?_
                      refine X_lv [(5, .int (iI (z204 + 1))), (4, .int (iI (z205 + 1))), (0, .ref a0), (1, .int (iI x1)), (2, .int (iI x2)), (3, .int (iI x3))] [0, 1, 6, 7, 8, 9] rfl ?_
                      exact ihP255  g294 (xM_ua (xM.tr xM.rf xLe.rf hg206 (by decide)) hg294 hs_wv (by decide) (by decide)) (z204 + 1) (by omega) (by omega) (z205 + 1) (by omega) (by omega) (by have h9 := (hn296); rw [show (z204 - x2).toNat + 1 = (z204 + 1 - x2).toNat by omega] at h9; exact h9) (by omega) (by omega)
                  · refine X_iload hK (i := 8) 1 kd53_44.2.2.2.2.2.2.2.1 rfl ?_
                    refine X_aloadn hK (i := 0) 6 kd53_44.2.2.2.2.2.2.2.2.1 rfl rfl ?_
                    refine X_getK hK fl_X12_74_13 hs_a0 ((hg206 a0 13 0 37 hs_a0 (by decide)).trans ewn) kd53_44.2.2.2.2.2.2.2.2.2.1 ?_
                    refine X_iload hK (i := 6) 3 kd53_44.2.2.2.2.2.2.2.2.2.2.1 rfl ?_
                    refine X_iald hK hs_wn (by decide) sl_16100 (by omega) (by omega) kd53_44.2.2.2.2.2.2.2.2.2.2.2 (fun z297 ez297 lz297 uz297 => ?_)
                    have hw298 : xv g wn ((120 * x1) + z204) = z297 := (by rw [← (xv_m hg206 hs_wn (by decide) (by decide))]; exact (xv_e (j := ((120 * x1) + z204)) ez297 (by omega)))
                    refine X_icmp_ne hK 253 (by omega) (by omega) kd53_45.1 (by decide) (fun c299 => ?_) (fun c299 => ?_)
                    · refine X_iconst hK kd53_45.2.2.2.1 ?_
                      refine X_goto hK 274 kd53_45.2.2.2.2.1 (by decide) ?_
                      refine X_zast hK hs_wv (by decide) (by decide) sl_19401 (by omega) (by omega) (by omega) (by omega) kd53_46.2.2.1 (fun g300 hg300 => ?_)
                      have at301 : 0 = xbi (xat9 F (c.getD (z204 - x2).toNat (0, 0, 0))) := xatm.c (s := z283) (n := z297) hw9 (by have h9 := (hj9.2.2 (by omega) (by omega)).1; rw [hw284] at h9; exact h9) (by have h9 := (hj9.2.2 (by omega) (by omega)).2; rw [hw298] at h9; exact h9) fz282 (by omega)
                      have hn302 : xHv F c ((z204 - x2).toNat + 1) (z205 + 1) (xv g300 wv) := xHv.at v256 hk9 (by omega) ⟨by omega, by omega, by omega⟩ (by rw [(show xv g300 wv z205 = 0 from by rw [xv_s hg300 (by omega)])]; exact at301) (fun i9 hi9 h09 => (show xv g300 wv i9 = xv g206 wv i9 from by rw [(xv_k (i := i9) hg300 (by omega) (by omega) (by omega))]))
                      have rhn302 := xHv.b hn302
                      refine X_iinc hK (i := 4) (z := z205) (n := 1) 5 [(4, .int (iI (z205 + 1))), (9, .int (iI z283)), (8, .int (iI z280)), (7, .int (iI z263)), (6, .int (iI ((120 * x1) + z204))), (5, .int (iI z204)), (0, .ref a0), (1, .int (iI x1)), (2, .int (iI x2)), (3, .int (iI x3))] kd53_46.2.2.2.1 rfl (by decide) rfl ?_
                      refine X_iinc hK (i := 5) (z := z204) (n := 1) 5 [(5, .int (iI (z204 + 1))), (4, .int (iI (z205 + 1))), (9, .int (iI z283)), (8, .int (iI z280)), (7, .int (iI z263)), (6, .int (iI ((120 * x1) + z204))), (0, .ref a0), (1, .int (iI x1)), (2, .int (iI x2)), (3, .int (iI x3))] kd53_46.2.2.2.2.1 rfl (by decide) rfl ?_
                      refine X_goto hK 6 kd53_46.2.2.2.2.2.1 (by decide) ?_
                      refine X_lv [(5, .int (iI (z204 + 1))), (4, .int (iI (z205 + 1))), (0, .ref a0), (1, .int (iI x1)), (2, .int (iI x2)), (3, .int (iI x3))] [0, 1, 6, 7, 8, 9] rfl ?_
                      exact ihP255  g300 (xM_ua (xM.tr xM.rf xLe.rf hg206 (by decide)) hg300 hs_wv (by decide) (by decide)) (z204 + 1) (by omega) (by omega) (z205 + 1) (by omega) (by omega) (by have h9 := (hn302); rw [show (z204 - x2).toNat + 1 = (z204 + 1 - x2).toNat by omega] at h9; exact h9) (by omega) (by omega)
                    · refine X_iconst hK kd53_45.2.1 ?_
                      refine X_goto hK 274 kd53_45.2.2.1 (by decide) ?_
                      refine X_zast hK hs_wv (by decide) (by decide) sl_19401 (by omega) (by omega) (by omega) (by omega) kd53_46.2.2.1 (fun g303 hg303 => ?_)
                      have at304 : 1 = xbi (xat9 F (c.getD (z204 - x2).toNat (0, 0, 0))) := xatm.c (s := z283) (n := z297) hw9 (by have h9 := (hj9.2.2 (by omega) (by omega)).1; rw [hw284] at h9; exact h9) (by have h9 := (hj9.2.2 (by omega) (by omega)).2; rw [hw298] at h9; exact h9) fz282 (by omega)
                      have hn305 : xHv F c ((z204 - x2).toNat + 1) (z205 + 1) (xv g303 wv) := xHv.at v256 hk9 (by omega) ⟨by omega, by omega, by omega⟩ (by rw [(show xv g303 wv z205 = 1 from by rw [xv_s hg303 (by omega)])]; exact at304) (fun i9 hi9 h09 => (show xv g303 wv i9 = xv g206 wv i9 from by rw [(xv_k (i := i9) hg303 (by omega) (by omega) (by omega))]))
                      have rhn305 := xHv.b hn305
                      refine X_iinc hK (i := 4) (z := z205) (n := 1) 5 [(4, .int (iI (z205 + 1))), (9, .int (iI z283)), (8, .int (iI z280)), (7, .int (iI z263)), (6, .int (iI ((120 * x1) + z204))), (5, .int (iI z204)), (0, .ref a0), (1, .int (iI x1)), (2, .int (iI x2)), (3, .int (iI x3))] kd53_46.2.2.2.1 rfl (by decide) rfl ?_
                      refine X_iinc hK (i := 5) (z := z204) (n := 1) 5 [(5, .int (iI (z204 + 1))), (4, .int (iI (z205 + 1))), (9, .int (iI z283)), (8, .int (iI z280)), (7, .int (iI z263)), (6, .int (iI ((120 * x1) + z204))), (0, .ref a0), (1, .int (iI x1)), (2, .int (iI x2)), (3, .int (iI x3))] kd53_46.2.2.2.2.1 rfl (by decide) rfl ?_
                      refine X_goto hK 6 kd53_46.2.2.2.2.2.1 (by decide) ?_
                      refine X_lv [(5, .int (iI (z204 + 1))), (4, .int (iI (z205 + 1))), (0, .ref a0), (1, .int (iI x1)), (2, .int (iI x2)), (3, .int (iI x3))] [0, 1, 6, 7, 8, 9] rfl ?_
                      exact ihP255  g303 (xM_ua (xM.tr xM.rf xLe.rf hg206 (by decide)) hg303 hs_wv (by decide) (by decide)) (z204 + 1) (by omega) (by omega) (z205 + 1) (by omega) (by omega) (by have h9 := (hn305); rw [show (z204 - x2).toNat + 1 = (z204 + 1 - x2).toNat by omega] at h9; exact h9) (by omega) (by omega)
                · refine X_iload hK (i := 8) 1 kd53_43.2.2.2.2.2.2.1 rfl ?_
                  refine X_aloadn hK (i := 0) 6 kd53_43.2.2.2.2.2.2.2.1 rfl rfl ?_
                  refine X_getK hK fl_X12_74_13 hs_a0 ((hg206 a0 13 0 37 hs_a0 (by decide)).trans ewn) kd53_43.2.2.2.2.2.2.2.2.1 ?_
                  refine X_iload hK (i := 6) 3 kd53_43.2.2.2.2.2.2.2.2.2.1 rfl ?_
                  refine X_iald hK hs_wn (by decide) sl_16100 (by omega) (by omega) kd53_43.2.2.2.2.2.2.2.2.2.2.1 (fun z306 ez306 lz306 uz306 => ?_)
                  have hw307 : xv g wn ((120 * x1) + z204) = z306 := (by rw [← (xv_m hg206 hs_wn (by decide) (by decide))]; exact (xv_e (j := ((120 * x1) + z204)) ez306 (by omega)))
                  refine X_icmp_ge hK 226 (by omega) (by omega) kd53_43.2.2.2.2.2.2.2.2.2.2.2 (by decide) (fun c308 => ?_) (fun c308 => ?_)
                  · refine X_iconst hK kd53_44.2.2.1 ?_
                    refine X_goto hK 274 kd53_44.2.2.2.1 (by decide) ?_
                    refine X_zast hK hs_wv (by decide) (by decide) sl_19401 (by omega) (by omega) (by omega) (by omega) kd53_46.2.2.1 (fun g309 hg309 => ?_)
                    have at310 : 0 = xbi (xat9 F (c.getD (z204 - x2).toNat (0, 0, 0))) := xatm.c (s := z283) (n := z306) hw9 (by have h9 := (hj9.2.2 (by omega) (by omega)).1; rw [hw284] at h9; exact h9) (by have h9 := (hj9.2.2 (by omega) (by omega)).2; rw [hw307] at h9; exact h9) fz282 (by omega)
                    have hn311 : xHv F c ((z204 - x2).toNat + 1) (z205 + 1) (xv g309 wv) := xHv.at v256 hk9 (by omega) ⟨by omega, by omega, by omega⟩ (by rw [(show xv g309 wv z205 = 0 from by rw [xv_s hg309 (by omega)])]; exact at310) (fun i9 hi9 h09 => (show xv g309 wv i9 = xv g206 wv i9 from by rw [(xv_k (i := i9) hg309 (by omega) (by omega) (by omega))]))
                    have rhn311 := xHv.b hn311
                    refine X_iinc hK (i := 4) (z := z205) (n := 1) 5 [(4, .int (iI (z205 + 1))), (9, .int (iI z283)), (8, .int (iI z280)), (7, .int (iI z263)), (6, .int (iI ((120 * x1) + z204))), (5, .int (iI z204)), (0, .ref a0), (1, .int (iI x1)), (2, .int (iI x2)), (3, .int (iI x3))] kd53_46.2.2.2.1 rfl (by decide) rfl ?_
                    refine X_iinc hK (i := 5) (z := z204) (n := 1) 5 [(5, .int (iI (z204 + 1))), (4, .int (iI (z205 + 1))), (9, .int (iI z283)), (8, .int (iI z280)), (7, .int (iI z263)), (6, .int (iI ((120 * x1) + z204))), (0, .ref a0), (1, .int (iI x1)), (2, .int (iI x2)), (3, .int (iI x3))] kd53_46.2.2.2.2.1 rfl (by decide) rfl ?_
                    refine X_goto hK 6 kd53_46.2.2.2.2.2.1 (by decide) ?_
                    refine X_lv [(5, .int (iI (z204 + 1))), (4, .int (iI (z205 + 1))), (0, .ref a0), (1, .int (iI x1)), (2, .int (iI x2)), (3, .int (iI x3))] [0, 1, 6, 7, 8, 9] rfl ?_
                    exact ihP255  g309 (xM_ua (xM.tr xM.rf xLe.rf hg206 (by decide)) hg309 hs_wv (by decide) (by decide)) (z204 + 1) (by omega) (by omega) (z205 + 1) (by omega) (by omega) (by have h9 := (hn311); rw [show (z204 - x2).toNat + 1 = (z204 + 1 - x2).toNat by omega] at h9; exact h9) (by omega) (by omega)
                  · refine X_iconst hK kd53_44.1 ?_
                    refine X_goto hK 274 kd53_44.2.1 (by decide) ?_
                    refine X_zast hK hs_wv (by decide) (by decide) sl_19401 (by omega) (by omega) (by omega) (by omega) kd53_46.2.2.1 (fun g312 hg312 => ?_)
                    have at313 : 1 = xbi (xat9 F (c.getD (z204 - x2).toNat (0, 0, 0))) := xatm.c (s := z283) (n := z306) hw9 (by have h9 := (hj9.2.2 (by omega) (by omega)).1; rw [hw284] at h9; exact h9) (by have h9 := (hj9.2.2 (by omega) (by omega)).2; rw [hw307] at h9; exact h9) fz282 (by omega)
                    have hn314 : xHv F c ((z204 - x2).toNat + 1) (z205 + 1) (xv g312 wv) := xHv.at v256 hk9 (by omega) ⟨by omega, by omega, by omega⟩ (by rw [(show xv g312 wv z205 = 1 from by rw [xv_s hg312 (by omega)])]; exact at313) (fun i9 hi9 h09 => (show xv g312 wv i9 = xv g206 wv i9 from by rw [(xv_k (i := i9) hg312 (by omega) (by omega) (by omega))]))
                    have rhn314 := xHv.b hn314
                    refine X_iinc hK (i := 4) (z := z205) (n := 1) 5 [(4, .int (iI (z205 + 1))), (9, .int (iI z283)), (8, .int (iI z280)), (7, .int (iI z263)), (6, .int (iI ((120 * x1) + z204))), (5, .int (iI z204)), (0, .ref a0), (1, .int (iI x1)), (2, .int (iI x2)), (3, .int (iI x3))] kd53_46.2.2.2.1 rfl (by decide) rfl ?_
                    refine X_iinc hK (i := 5) (z := z204) (n := 1) 5 [(5, .int (iI (z204 + 1))), (4, .int (iI (z205 + 1))), (9, .int (iI z283)), (8, .int (iI z280)), (7, .int (iI z263)), (6, .int (iI ((120 * x1) + z204))), (0, .ref a0), (1, .int (iI x1)), (2, .int (iI x2)), (3, .int (iI x3))] kd53_46.2.2.2.2.1 rfl (by decide) rfl ?_
                    refine X_goto hK 6 kd53_46.2.2.2.2.2.1 (by decide) ?_
                    refine X_lv [(5, .int (iI (z204 + 1))), (4, .int (iI (z205 + 1))), (0, .ref a0), (1, .int (iI x1)), (2, .int (iI x2)), (3, .int (iI x3))] [0, 1, 6, 7, 8, 9] rfl ?_
                    exact ihP255  g312 (xM_ua (xM.tr xM.rf xLe.rf hg206 (by decide)) hg312 hs_wv (by decide) (by decide)) (z204 + 1) (by omega) (by omega) (z205 + 1) (by omega) (by omega) (by have h9 := (hn314); rw [show (z204 - x2).toNat + 1 = (z204 + 1 - x2).toNat by omega] at h9; exact h9) (by omega) (by omega)
              · refine X_iload hK (i := 8) 1 kd53_42.2.2.2.2.2.2.2.2.1 rfl ?_
                refine X_iconst hK kd53_42.2.2.2.2.2.2.2.2.2.1 ?_
                refine X_icmp_ne hK 199 (by omega) (by omega) kd53_42.2.2.2.2.2.2.2.2.2.2.1 (by decide) (fun c315 => ?_) (fun c315 => ?_)
                · refine X_iconst hK kd53_43.2.1 ?_
                  refine X_goto hK 274 kd53_43.2.2.1 (by decide) ?_
                  refine X_zast hK hs_wv (by decide) (by decide) sl_19401 (by omega) (by omega) (by omega) (by omega) kd53_46.2.2.1 (fun g316 hg316 => ?_)
                  have at317 : 0 = xbi (xat9 F (c.getD (z204 - x2).toNat (0, 0, 0))) := xatm.f hp1 (by omega) (hj9.2.1 (by omega)) fz282 (by omega)
                  have hn318 : xHv F c ((z204 - x2).toNat + 1) (z205 + 1) (xv g316 wv) := xHv.at v256 hk9 (by omega) ⟨by omega, by omega, by omega⟩ (by rw [(show xv g316 wv z205 = 0 from by rw [xv_s hg316 (by omega)])]; exact at317) (fun i9 hi9 h09 => (show xv g316 wv i9 = xv g206 wv i9 from by rw [(xv_k (i := i9) hg316 (by omega) (by omega) (by omega))]))
                  have rhn318 := xHv.b hn318
                  refine X_iinc hK (i := 4) (z := z205) (n := 1) 5 [(4, .int (iI (z205 + 1))), (9, .int (iI z283)), (8, .int (iI z280)), (7, .int (iI z263)), (6, .int (iI ((120 * x1) + z204))), (5, .int (iI z204)), (0, .ref a0), (1, .int (iI x1)), (2, .int (iI x2)), (3, .int (iI x3))] kd53_46.2.2.2.1 rfl (by decide) rfl ?_
                  refine X_iinc hK (i := 5) (z := z204) (n := 1) 5 [(5, .int (iI (z204 + 1))), (4, .int (iI (z205 + 1))), (9, .int (iI z283)), (8, .int (iI z280)), (7, .int (iI z263)), (6, .int (iI ((120 * x1) + z204))), (0, .ref a0), (1, .int (iI x1)), (2, .int (iI x2)), (3, .int (iI x3))] kd53_46.2.2.2.2.1 rfl (by decide) rfl ?_
                  refine X_goto hK 6 kd53_46.2.2.2.2.2.1 (by decide) ?_
                  refine X_lv [(5, .int (iI (z204 + 1))), (4, .int (iI (z205 + 1))), (0, .ref a0), (1, .int (iI x1)), (2, .int (iI x2)), (3, .int (iI x3))] [0, 1, 6, 7, 8, 9] rfl ?_
                  exact ihP255  g316 (xM_ua (xM.tr xM.rf xLe.rf hg206 (by decide)) hg316 hs_wv (by decide) (by decide)) (z204 + 1) (by omega) (by omega) (z205 + 1) (by omega) (by omega) (by have h9 := (hn318); rw [show (z204 - x2).toNat + 1 = (z204 + 1 - x2).toNat by omega] at h9; exact h9) (by omega) (by omega)
                · refine X_iconst hK kd53_42.2.2.2.2.2.2.2.2.2.2.2 ?_
                  refine X_goto hK 274 kd53_43.1 (by decide) ?_
                  refine X_zast hK hs_wv (by decide) (by decide) sl_19401 (by omega) (by omega) (by omega) (by omega) kd53_46.2.2.1 (fun g319 hg319 => ?_)
                  have at320 : 1 = xbi (xat9 F (c.getD (z204 - x2).toNat (0, 0, 0))) := xatm.f hp1 (by omega) (hj9.2.1 (by omega)) fz282 (by omega)
                  have hn321 : xHv F c ((z204 - x2).toNat + 1) (z205 + 1) (xv g319 wv) := xHv.at v256 hk9 (by omega) ⟨by omega, by omega, by omega⟩ (by rw [(show xv g319 wv z205 = 1 from by rw [xv_s hg319 (by omega)])]; exact at320) (fun i9 hi9 h09 => (show xv g319 wv i9 = xv g206 wv i9 from by rw [(xv_k (i := i9) hg319 (by omega) (by omega) (by omega))]))
                  have rhn321 := xHv.b hn321
                  refine X_iinc hK (i := 4) (z := z205) (n := 1) 5 [(4, .int (iI (z205 + 1))), (9, .int (iI z283)), (8, .int (iI z280)), (7, .int (iI z263)), (6, .int (iI ((120 * x1) + z204))), (5, .int (iI z204)), (0, .ref a0), (1, .int (iI x1)), (2, .int (iI x2)), (3, .int (iI x3))] kd53_46.2.2.2.1 rfl (by decide) rfl ?_
                  refine X_iinc hK (i := 5) (z := z204) (n := 1) 5 [(5, .int (iI (z204 + 1))), (4, .int (iI (z205 + 1))), (9, .int (iI z283)), (8, .int (iI z280)), (7, .int (iI z263)), (6, .int (iI ((120 * x1) + z204))), (0, .ref a0), (1, .int (iI x1)), (2, .int (iI x2)), (3, .int (iI x3))] kd53_46.2.2.2.2.1 rfl (by decide) rfl ?_
                  refine X_goto hK 6 kd53_46.2.2.2.2.2.1 (by decide) ?_
                  refine X_lv [(5, .int (iI (z204 + 1))), (4, .int (iI (z205 + 1))), (0, .ref a0), (1, .int (iI x1)), (2, .int (iI x2)), (3, .int (iI x3))] [0, 1, 6, 7, 8, 9] rfl ?_
                  exact ihP255  g319 (xM_ua (xM.tr xM.rf xLe.rf hg206 (by decide)) hg319 hs_wv (by decide) (by decide)) (z204 + 1) (by omega) (by omega) (z205 + 1) (by omega) (by omega) (by have h9 := (hn321); rw [show (z204 - x2).toNat + 1 = (z204 + 1 - x2).toNat by omega] at h9; exact h9) (by omega) (by omega)
            · refine X_iinc hK (i := 4) (z := z205) (n := (-1)) 3 [(4, .int (iI (z205 + (-1)))), (7, .int (iI z263)), (6, .int (iI ((120 * x1) + z204))), (5, .int (iI z204)), (0, .ref a0), (1, .int (iI x1)), (2, .int (iI x2)), (3, .int (iI x3))] kd53_37.2.2.2.2.2.2.2.2.2.2.1 rfl (by decide) rfl ?_
              have hn9 := xHv.two v256 hk9 (by omega) (by omega)
              have hn8 := hn9.1
              refine X_aloadn hK (i := 0) 4 kd53_37.2.2.2.2.2.2.2.2.2.2.2 rfl rfl ?_
              refine X_getK hK fl_X12_83_13 hs_a0 ((hg206 a0 13 0 46 hs_a0 (by decide)).trans ewv) kd53_38.1 ?_
              refine X_iload hK (i := 4) 0 kd53_38.2.1 rfl ?_
              refine X_iconst hK kd53_38.2.2.1 ?_
              refine X_isub hK kd53_38.2.2.2.1 ?_
              refine X_iload hK (i := 7) 1 kd53_38.2.2.2.2.1 rfl ?_
              refine X_bipush hK kd53_38.2.2.2.2.2.1 (by decide) ?_
              refine X_icmp_ne hK 128 (by omega) (by omega) kd53_38.2.2.2.2.2.2.1 (by decide) (fun c322 => ?_) (fun c322 => False.elim (by omega))
              refine X_aloadn hK (i := 0) 4 kd53_39.2.2.2.2.2.2.2.2.2.2.2 rfl rfl ?_
              refine X_getK hK fl_X12_83_13 hs_a0 ((hg206 a0 13 0 46 hs_a0 (by decide)).trans ewv) kd53_40.1 ?_
              refine X_iload hK (i := 4) 0 kd53_40.2.1 rfl ?_
              refine X_iconst hK kd53_40.2.2.1 ?_
              refine X_isub hK kd53_40.2.2.2.1 ?_
              refine X_zald hK hs_wv (by decide) sl_19401 (by omega) (by omega) kd53_40.2.2.2.2.1 (fun z323 ez323 lz323 uz323 => ?_)
              have hw324 : xv g206 wv ((z205 + (-1)) - 1) = z323 := (xv_e (j := ((z205 + (-1)) - 1)) ez323 (by omega))
              have hv325 : xv g206 wv (z205 - 2) = z323 := by rw [show z205 - 2 = ((z205 + (-1)) - 1) by omega]; exact hw324
              refine X_if_ne hK 150 (by omega) kd53_40.2.2.2.2.2.1 (by decide) (fun c326 => ?_) (fun c326 => ?_)
              · refine X_iconst hK kd53_40.2.2.2.2.2.2.2.2.2.2.2 ?_
                refine X_goto hK 155 kd53_41.1 (by decide) ?_
                refine X_zast hK hs_wv (by decide) (by decide) sl_19401 (by omega) (by omega) (by omega) (by omega) kd53_41.2.2.1 (fun g327 hg327 => ?_)
                refine X_goto hK 278 kd53_41.2.2.2.1 (by decide) ?_
                refine X_iinc hK (i := 5) (z := z204) (n := 1) 3 [(5, .int (iI (z204 + 1))), (4, .int (iI (z205 + (-1)))), (7, .int (iI z263)), (6, .int (iI ((120 * x1) + z204))), (0, .ref a0), (1, .int (iI x1)), (2, .int (iI x2)), (3, .int (iI x3))] kd53_46.2.2.2.2.1 rfl (by decide) rfl ?_
                refine X_goto hK 6 kd53_46.2.2.2.2.2.1 (by decide) ?_
                refine X_lv [(5, .int (iI (z204 + 1))), (4, .int (iI (z205 + (-1)))), (0, .ref a0), (1, .int (iI x1)), (2, .int (iI x2)), (3, .int (iI x3))] [0, 1, 4, 5, 6, 7] rfl ?_
                exact ihP255  g327 (xM_ua (xM.tr xM.rf xLe.rf hg206 (by decide)) hg327 hs_wv (by decide) (by decide)) (z204 + 1) (by omega) (by omega) (z205 + (-1)) (by omega) (by omega) (by have h9 := (hn9.2.2.2 _ ⟨fun c9 => by rw [(show xv g327 wv (z205 - 2) = 1 from by rw [show z205 - 2 = ((z205 + (-1)) - 1) by omega]; exact (show xv g327 wv ((z205 + (-1)) - 1) = 1 from by rw [xv_s hg327 (by omega)]))]; have h7 := hn9.2.1; have h6 := hn9.2.2.1; have h50 := hv325; omega, fun c9 => by rw [(show xv g327 wv (z205 - 2) = 1 from by rw [show z205 - 2 = ((z205 + (-1)) - 1) by omega]; exact (show xv g327 wv ((z205 + (-1)) - 1) = 1 from by rw [xv_s hg327 (by omega)]))]; have h7 := hn9.2.1; have h6 := hn9.2.2.1; have h50 := hv325; omega⟩ (by rw [(show xv g327 wv (z205 - 2) = 1 from by rw [show z205 - 2 = ((z205 + (-1)) - 1) by omega]; exact (show xv g327 wv ((z205 + (-1)) - 1) = 1 from by rw [xv_s hg327 (by omega)]))]; omega) (fun i9 r1 r2 => (show xv g327 wv i9 = xv g206 wv i9 from by rw [(xv_k (i := i9) hg327 (by omega) (by omega) (by omega))]))); rw [show (z204 - x2).toNat + 1 = (z204 + 1 - x2).toNat by omega] at h9; exact h9) (by omega) (by omega)
              · refine X_aloadn hK (i := 0) 4 kd53_40.2.2.2.2.2.2.1 rfl rfl ?_
                refine X_getK hK fl_X12_83_13 hs_a0 ((hg206 a0 13 0 46 hs_a0 (by decide)).trans ewv) kd53_40.2.2.2.2.2.2.2.1 ?_
                refine X_iload hK (i := 4) 0 kd53_40.2.2.2.2.2.2.2.2.1 rfl ?_
                refine X_zald hK hs_wv (by decide) sl_19401 (by omega) (by omega) kd53_40.2.2.2.2.2.2.2.2.2.1 (fun z328 ez328 lz328 uz328 => ?_)
                have hw329 : xv g206 wv (z205 + (-1)) = z328 := (xv_e (j := (z205 + (-1))) ez328 (by omega))
                have hv330 : xv g206 wv (z205 - 1) = z328 := by rw [show z205 - 1 = (z205 + (-1)) by omega]; exact hw329
                refine X_if_eq hK 154 (by omega) kd53_40.2.2.2.2.2.2.2.2.2.2.1 (by decide) (fun c331 => ?_) (fun c331 => ?_)
                · refine X_iconst hK kd53_41.2.1 ?_
                  refine X_zast hK hs_wv (by decide) (by decide) sl_19401 (by omega) (by omega) (by omega) (by omega) kd53_41.2.2.1 (fun g332 hg332 => ?_)
                  refine X_goto hK 278 kd53_41.2.2.2.1 (by decide) ?_
                  refine X_iinc hK (i := 5) (z := z204) (n := 1) 3 [(5, .int (iI (z204 + 1))), (4, .int (iI (z205 + (-1)))), (7, .int (iI z263)), (6, .int (iI ((120 * x1) + z204))), (0, .ref a0), (1, .int (iI x1)), (2, .int (iI x2)), (3, .int (iI x3))] kd53_46.2.2.2.2.1 rfl (by decide) rfl ?_
                  refine X_goto hK 6 kd53_46.2.2.2.2.2.1 (by decide) ?_
                  refine X_lv [(5, .int (iI (z204 + 1))), (4, .int (iI (z205 + (-1)))), (0, .ref a0), (1, .int (iI x1)), (2, .int (iI x2)), (3, .int (iI x3))] [0, 1, 4, 5, 6, 7] rfl ?_
                  exact ihP255  g332 (xM_ua (xM.tr xM.rf xLe.rf hg206 (by decide)) hg332 hs_wv (by decide) (by decide)) (z204 + 1) (by omega) (by omega) (z205 + (-1)) (by omega) (by omega) (by have h9 := (hn9.2.2.2 _ ⟨fun c9 => by rw [(show xv g332 wv (z205 - 2) = 0 from by rw [show z205 - 2 = ((z205 + (-1)) - 1) by omega]; exact (show xv g332 wv ((z205 + (-1)) - 1) = 0 from by rw [xv_s hg332 (by omega)]))]; have h7 := hn9.2.1; have h6 := hn9.2.2.1; have h50 := hv325; have h51 := hv330; omega, fun c9 => by rw [(show xv g332 wv (z205 - 2) = 0 from by rw [show z205 - 2 = ((z205 + (-1)) - 1) by omega]; exact (show xv g332 wv ((z205 + (-1)) - 1) = 0 from by rw [xv_s hg332 (by omega)]))]; have h7 := hn9.2.1; have h6 := hn9.2.2.1; have h50 := hv325; have h51 := hv330; omega⟩ (by rw [(show xv g332 wv (z205 - 2) = 0 from by rw [show z205 - 2 = ((z205 + (-1)) - 1) by omega]; exact (show xv g332 wv ((z205 + (-1)) - 1) = 0 from by rw [xv_s hg332 (by omega)]))]; omega) (fun i9 r1 r2 => (show xv g332 wv i9 = xv g206 wv i9 from by rw [(xv_k (i := i9) hg332 (by omega) (by omega) (by omega))]))); rw [show (z204 - x2).toNat + 1 = (z204 + 1 - x2).toNat by omega] at h9; exact h9) (by omega) (by omega)
                · refine X_iconst hK kd53_40.2.2.2.2.2.2.2.2.2.2.2 ?_
                  refine X_goto hK 155 kd53_41.1 (by decide) ?_
                  refine X_zast hK hs_wv (by decide) (by decide) sl_19401 (by omega) (by omega) (by omega) (by omega) kd53_41.2.2.1 (fun g333 hg333 => ?_)
                  refine X_goto hK 278 kd53_41.2.2.2.1 (by decide) ?_
                  refine X_iinc hK (i := 5) (z := z204) (n := 1) 3 [(5, .int (iI (z204 + 1))), (4, .int (iI (z205 + (-1)))), (7, .int (iI z263)), (6, .int (iI ((120 * x1) + z204))), (0, .ref a0), (1, .int (iI x1)), (2, .int (iI x2)), (3, .int (iI x3))] kd53_46.2.2.2.2.1 rfl (by decide) rfl ?_
                  refine X_goto hK 6 kd53_46.2.2.2.2.2.1 (by decide) ?_
                  refine X_lv [(5, .int (iI (z204 + 1))), (4, .int (iI (z205 + (-1)))), (0, .ref a0), (1, .int (iI x1)), (2, .int (iI x2)), (3, .int (iI x3))] [0, 1, 4, 5, 6, 7] rfl ?_
                  exact ihP255  g333 (xM_ua (xM.tr xM.rf xLe.rf hg206 (by decide)) hg333 hs_wv (by decide) (by decide)) (z204 + 1) (by omega) (by omega) (z205 + (-1)) (by omega) (by omega) (by have h9 := (hn9.2.2.2 _ ⟨fun c9 => by rw [(show xv g333 wv (z205 - 2) = 1 from by rw [show z205 - 2 = ((z205 + (-1)) - 1) by omega]; exact (show xv g333 wv ((z205 + (-1)) - 1) = 1 from by rw [xv_s hg333 (by omega)]))]; have h7 := hn9.2.1; have h6 := hn9.2.2.1; have h50 := hv325; have h51 := hv330; omega, fun c9 => by rw [(show xv g333 wv (z205 - 2) = 1 from by rw [show z205 - 2 = ((z205 + (-1)) - 1) by omega]; exact (show xv g333 wv ((z205 + (-1)) - 1) = 1 from by rw [xv_s hg333 (by omega)]))]; have h7 := hn9.2.1; have h6 := hn9.2.2.1; have h50 := hv325; have h51 := hv330; omega⟩ (by rw [(show xv g333 wv (z205 - 2) = 1 from by rw [show z205 - 2 = ((z205 + (-1)) - 1) by omega]; exact (show xv g333 wv ((z205 + (-1)) - 1) = 1 from by rw [xv_s hg333 (by omega)]))]; omega) (fun i9 r1 r2 => (show xv g333 wv i9 = xv g206 wv i9 from by rw [(xv_k (i := i9) hg333 (by omega) (by omega) (by omega))]))); rw [show (z204 - x2).toNat + 1 = (z204 + 1 - x2).toNat by omega] at h9; exact h9) (by omega) (by omega)
        · refine X_aloadn hK (i := 0) 4 kd53_35.2.2.2.2.2.2.2.2.2.2.2 rfl rfl ?_
          have hn9 := xHv.not v256 hk9 (by omega) (by omega)
          have hn8 := hn9.1
          refine X_getK hK fl_X12_83_13 hs_a0 ((hg206 a0 13 0 46 hs_a0 (by decide)).trans ewv) kd53_36.1 ?_
          refine X_iload hK (i := 4) 3 kd53_36.2.1 rfl ?_
          refine X_iconst hK kd53_36.2.2.1 ?_
          refine X_isub hK kd53_36.2.2.2.1 ?_
          refine X_aloadn hK (i := 0) 4 kd53_36.2.2.2.2.1 rfl rfl ?_
          refine X_getK hK fl_X12_83_13 hs_a0 ((hg206 a0 13 0 46 hs_a0 (by decide)).trans ewv) kd53_36.2.2.2.2.2.1 ?_
          refine X_iload hK (i := 4) 3 kd53_36.2.2.2.2.2.2.1 rfl ?_
          refine X_iconst hK kd53_36.2.2.2.2.2.2.2.1 ?_
          refine X_isub hK kd53_36.2.2.2.2.2.2.2.2.1 ?_
          refine X_zald hK hs_wv (by decide) sl_19401 (by omega) (by omega) kd53_36.2.2.2.2.2.2.2.2.2.1 (fun z334 ez334 lz334 uz334 => ?_)
          have hw335 : xv g206 wv (z205 - 1) = z334 := (xv_e (j := (z205 - 1)) ez334 (by omega))
          refine X_if_ne hK 61 (by omega) kd53_36.2.2.2.2.2.2.2.2.2.2.1 (by decide) (fun c336 => ?_) (fun c336 => ?_)
          · refine X_iconst hK kd53_37.2.1 ?_
            refine X_zast hK hs_wv (by decide) (by decide) sl_19401 (by omega) (by omega) (by omega) (by omega) kd53_37.2.2.1 (fun g337 hg337 => ?_)
            refine X_goto hK 278 kd53_37.2.2.2.1 (by decide) ?_
            refine X_iinc hK (i := 5) (z := z204) (n := 1) 2 [(5, .int (iI (z204 + 1))), (7, .int (iI z263)), (6, .int (iI ((120 * x1) + z204))), (4, .int (iI z205)), (0, .ref a0), (1, .int (iI x1)), (2, .int (iI x2)), (3, .int (iI x3))] kd53_46.2.2.2.2.1 rfl (by decide) rfl ?_
            refine X_goto hK 6 kd53_46.2.2.2.2.2.1 (by decide) ?_
            refine X_lv [(5, .int (iI (z204 + 1))), (4, .int (iI z205)), (0, .ref a0), (1, .int (iI x1)), (2, .int (iI x2)), (3, .int (iI x3))] [0, 3, 4, 5, 6, 7] rfl ?_
            exact ihP255  g337 (xM_ua (xM.tr xM.rf xLe.rf hg206 (by decide)) hg337 hs_wv (by decide) (by decide)) (z204 + 1) (by omega) (by omega) z205 (by omega) (by omega) (by have h9 := (hn9.2 _ (by rw [(show xv g337 wv (z205 - 1) = 0 from by rw [xv_s hg337 (by omega)]), hw335]; omega) (fun i9 hi9 h09 => (show xv g337 wv i9 = xv g206 wv i9 from by rw [(xv_k (i := i9) hg337 (by omega) (by omega) (by omega))]))); rw [show (z204 - x2).toNat + 1 = (z204 + 1 - x2).toNat by omega] at h9; exact h9) (by omega) (by omega)
          · refine X_iconst hK kd53_36.2.2.2.2.2.2.2.2.2.2.2 ?_
            refine X_goto hK 62 kd53_37.1 (by decide) ?_
            refine X_zast hK hs_wv (by decide) (by decide) sl_19401 (by omega) (by omega) (by omega) (by omega) kd53_37.2.2.1 (fun g338 hg338 => ?_)
            refine X_goto hK 278 kd53_37.2.2.2.1 (by decide) ?_
            refine X_iinc hK (i := 5) (z := z204) (n := 1) 2 [(5, .int (iI (z204 + 1))), (7, .int (iI z263)), (6, .int (iI ((120 * x1) + z204))), (4, .int (iI z205)), (0, .ref a0), (1, .int (iI x1)), (2, .int (iI x2)), (3, .int (iI x3))] kd53_46.2.2.2.2.1 rfl (by decide) rfl ?_
            refine X_goto hK 6 kd53_46.2.2.2.2.2.1 (by decide) ?_
            refine X_lv [(5, .int (iI (z204 + 1))), (4, .int (iI z205)), (0, .ref a0), (1, .int (iI x1)), (2, .int (iI x2)), (3, .int (iI x3))] [0, 3, 4, 5, 6, 7] rfl ?_
            exact ihP255  g338 (xM_ua (xM.tr xM.rf xLe.rf hg206 (by decide)) hg338 hs_wv (by decide) (by decide)) (z204 + 1) (by omega) (by omega) z205 (by omega) (by omega) (by have h9 := (hn9.2 _ (by rw [(show xv g338 wv (z205 - 1) = 1 from by rw [xv_s hg338 (by omega)]), hw335]; omega) (fun i9 hi9 h09 => (show xv g338 wv i9 = xv g206 wv i9 from by rw [(xv_k (i := i9) hg338 (by omega) (by omega) (by omega))]))); rw [show (z204 - x2).toNat + 1 = (z204 + 1 - x2).toNat by omega] at h9; exact h9) (by omega) (by omega)
  exact P255 ((200 - x2 : Int).toNat + 1) g xM.rf x2 (by omega) (by omega) 0 (by omega) (by omega) (by rw [show (x2 - x2).toNat = 0 by omega]; exact xHv.z) (by omega) (by omega)

set_option maxHeartbeats 4000000 in
set_option maxRecDepth 100000 in
theorem m_mtells (l : Launch) (D : va_G) (kA : Nat → ClassId) (b0 : Nat) (t0 : Nat → Nat) (S : xT) (g : xG) (a0 : Nat) (x1 : Int) (x2 : Int) (wo : Nat) (wso : Nat) (wam : Nat) (wcf : Nat) (wct : Nat) (wc : Nat) (wv : Nat) (wp : Nat) (wq : Nat) (wn : Nat) (F : Int → Int) (T : List xL3) (hs_a0 : S a0 = some (13, 0)) (hx1 : (-1) ≤ x1 ∧ x1 ≤ 10) (hx2 : 0 ≤ x2 ∧ x2 ≤ 5) (ewo : g a0 29 = .ref wo) (hs_wo : S wo = some (15300, 11)) (ewso : g a0 31 = .ref wso) (hs_wso : S wso = some (15500, 176)) (ewam : g a0 32 = .ref wam) (hs_wam : S wam = some (15600, 176)) (ewcf : g a0 33 = .ref wcf) (hs_wcf : S wcf = some (15700, 176)) (ewct : g a0 34 = .ref wct) (hs_wct : S wct = some (15800, 176)) (ewc : g a0 45 = .ref wc) (hs_wc : S wc = some (16300, 12)) (ewv : g a0 46 = .ref wv) (hs_wv : S wv = some (19401, 64)) (ewp : g a0 35 = .ref wp) (hs_wp : S wp = some (15900, 1320)) (ewq : g a0 36 = .ref wq) (hs_wq : S wq = some (16000, 1320)) (ewn : g a0 37 = .ref wn) (hs_wn : S wn = some (16100, 1320)) (hp0 : xFa (xv g wc) F) (hp1 : xFb F) (hp2 : xTQ (xv g wo) (xv g wso) (xv g wam) (xv g wcf) (xv g wct) (xv g wp) (xv g wq) (xv g wn) x1 T) : xMt l yX12_tells cX12_tells 5 (some .int) 1 0 0 29 D kA b0 t0 [(13, 47), (19401, 0)] [.ref a0, .int (iI x1), .int (iI x2)] S g (fun (r : Option Value) (S1 : xT) (g1 : xG) => S = S1 ∧ ∃ z : Int, r = some (.int (iI z)) ∧ 0 ≤ z ∧ z ≤ 1000 ∧ (z = xnb9 T (xlf9 F x2 T 0) x2)) := by
  refine xEnterI (by decide) (by simp [lg_sl, Value.category]) [(0, .ref a0), (1, .int (iI x1)), (2, .int (iI x2))] rfl ?_
  intro K E hK hret _ _ _
  refine X_aloadn hK (i := 0) 0 kd53_62.2.2.2.2.2.2.2.1 rfl rfl ?_
  refine X_iconst hK kd53_62.2.2.2.2.2.2.2.2.1 ?_
  refine X_puti hK fl_X12_86_13 hs_a0 (by decide) sl_13_47 (by omega) (by omega) kd53_62.2.2.2.2.2.2.2.2.2.1 (fun g1 hg1 => ?_)
  refine X_iconst hK kd53_62.2.2.2.2.2.2.2.2.2.2.1 ?_
  refine X_istoren hK (i := 3) [(3, .int (iI 0)), (0, .ref a0), (1, .int (iI x1)), (2, .int (iI x2))] kd53_62.2.2.2.2.2.2.2.2.2.2.2 rfl (by decide) rfl ?_
  have P136 : ∀ (nP136 : Nat) (g110 : xG) (_ : xM [(19401, 0)] S g1 g110) (z109 : Int) (_ : 0 ≤ z109) (_ : z109 ≤ 16) (_ : xlf9 F x2 (T.drop z109.toNat) z109 = xlf9 F x2 T 0) (_ : 40 - z109 < (nP136 : Int)), X K E 7 [(3, .int (iI z109)), (0, .ref a0), (1, .int (iI x1)), (2, .int (iI x2))] [] S g110 0 0 := by
    intro nP136
    induction nP136 with
    | zero => intro g110 hg110 z109 lz109 uz109 v137 mP136; exact False.elim (by omega)
    | succ nP136 ihP136 =>
      intro g110 hg110 z109 lz109 uz109 v137 mP136
      refine X_iloadn hK (i := 1) 2 kd53_63.1 rfl rfl ?_
      refine X_iconst hK kd53_63.2.1 ?_
      refine X_icmp_eq hK 85 (by omega) (by omega) kd53_63.2.2.1 (by decide) (fun c138 => ?_) (fun c138 => ?_)
      · refine X_iloadn hK (i := 2) 3 kd53_66.2.2.2.2.2.2.2.2.1 rfl rfl ?_
        refine X_callS hK [.int (iI x2)] [] lk_X12_382 (m_usual _ _ _ _ _ S g110 x2 (by omega)) kd53_66.2.2.2.2.2.2.2.2.2.1 rfl rfl (by simp [Value.category]) (by decide) (by decide) (by decide) (by decide) (fun r139 S141 g140 pr139 qr139 hg140 => ?_)
        obtain ⟨rfl, rfl, z142, rfl, lz142, uz142, k143⟩ := pr139
        refine X_st [.int (iI z142)] rfl ?_
        exact hret _ _ _ _ _ _ _ kd53_66.2.2.2.2.2.2.2.2.2.2.1 ⟨rfl, z142, rfl, (by omega), (by omega), (by rw [← v137, xlf9.e (by rcases hp2 with h9 | h9; rw [h9.2]; show ((0 : Nat) : Int) ≤ _; omega; exact absurd (by omega) h9.1)]; unfold xnb9; rw [if_pos rfl]; exact k143)⟩ (Nat.le_refl _) (Nat.le_refl _)
      · refine X_iloadn hK (i := 3) 0 kd53_63.2.2.2.1 rfl rfl ?_
        refine X_aloadn hK (i := 0) 1 kd53_63.2.2.2.2.1 rfl rfl ?_
        refine X_getK hK fl_X12_50_13 hs_a0 ((hg110 a0 13 0 29 hs_a0 (by decide)).trans ((xs_k hg1 (by decide)).trans ewo)) kd53_63.2.2.2.2.2.1 ?_
        refine X_iloadn hK (i := 1) 2 kd53_63.2.2.2.2.2.2.1 rfl rfl ?_
        refine X_iald hK hs_wo (by decide) sl_15300 (by omega) (by omega) kd53_63.2.2.2.2.2.2.2.1 (fun z144 ez144 lz144 uz144 => ?_)
        have hw145 : xv g wo x1 = z144 := (by rw [← (Eq.trans (xv_m hg110 hs_wo (by decide) (by decide)) (xv_a hg1 (xne hs_wo hs_a0 (by decide))))]; exact (xv_e (j := x1) ez144 (by omega)))
        have ht9 := (hp2.resolve_left (fun q9 => by omega)).2
        rw [hw145] at ht9
        have hl9 := ht9.1
        refine X_icmp_ge hK 85 (by omega) (by omega) kd53_63.2.2.2.2.2.2.2.2.1 (by decide) (fun c146 => ?_) (fun c146 => ?_)
        · refine X_iloadn hK (i := 2) 3 kd53_66.2.2.2.2.2.2.2.2.1 rfl rfl ?_
          refine X_callS hK [.int (iI x2)] [] lk_X12_382 (m_usual _ _ _ _ _ S g110 x2 (by omega)) kd53_66.2.2.2.2.2.2.2.2.2.1 rfl rfl (by simp [Value.category]) (by decide) (by decide) (by decide) (by decide) (fun r147 S149 g148 pr147 qr147 hg148 => ?_)
          obtain ⟨rfl, rfl, z150, rfl, lz150, uz150, k151⟩ := pr147
          refine X_st [.int (iI z150)] rfl ?_
          exact hret _ _ _ _ _ _ _ kd53_66.2.2.2.2.2.2.2.2.2.2.1 ⟨rfl, z150, rfl, (by omega), (by omega), (by rw [← v137, xlf9.e (by have h9 := ht9.1; omega)]; unfold xnb9; rw [if_pos rfl]; exact k151)⟩ (Nat.le_refl _) (Nat.le_refl _)
        · refine X_bipush hK kd53_63.2.2.2.2.2.2.2.2.2.1 (by decide) ?_
          refine X_iloadn hK (i := 1) 2 kd53_63.2.2.2.2.2.2.2.2.2.2.1 rfl rfl ?_
          refine X_imul hK kd53_63.2.2.2.2.2.2.2.2.2.2.2 ?_
          refine X_iloadn hK (i := 3) 0 kd53_64.1 rfl rfl ?_
          refine X_iadd hK kd53_64.2.1 ?_
          refine X_istore hK (i := 4) [(4, .int (iI ((16 * x1) + z109))), (3, .int (iI z109)), (0, .ref a0), (1, .int (iI x1)), (2, .int (iI x2))] kd53_64.2.2.1 (by decide) rfl ?_
          refine X_aloadn hK (i := 0) 2 kd53_64.2.2.2.1 rfl rfl ?_
          refine X_getK hK fl_X12_56_13 hs_a0 ((hg110 a0 13 0 31 hs_a0 (by decide)).trans ((xs_k hg1 (by decide)).trans ewso)) kd53_64.2.2.2.2.1 ?_
          refine X_iload hK (i := 4) 0 kd53_64.2.2.2.2.2.1 rfl ?_
          refine X_iald hK hs_wso (by decide) sl_15500 (by omega) (by omega) kd53_64.2.2.2.2.2.2.1 (fun z152 ez152 lz152 uz152 => ?_)
          have hw153 : xv g wso ((16 * x1) + z109) = z152 := (by rw [← (Eq.trans (xv_m hg110 hs_wso (by decide) (by decide)) (xv_a hg1 (xne hs_wso hs_a0 (by decide))))]; exact (xv_e (j := ((16 * x1) + z109)) ez152 (by omega)))
          have hx154 : xv g wso (16 * x1 + z109) = z152 := hw153
          refine X_iloadn hK (i := 2) 4 kd53_64.2.2.2.2.2.2.2.1 rfl rfl ?_
          refine X_icmp_ne hK 79 (by omega) (by omega) kd53_64.2.2.2.2.2.2.2.2.1 (by decide) (fun c155 => ?_) (fun c155 => ?_)
          · refine X_iinc hK (i := 3) (z := z109) (n := 1) 1 [(3, .int (iI (z109 + 1))), (4, .int (iI ((16 * x1) + z109))), (0, .ref a0), (1, .int (iI x1)), (2, .int (iI x2))] kd53_66.2.2.2.2.2.2.1 rfl (by decide) rfl ?_
            refine X_goto hK 7 kd53_66.2.2.2.2.2.2.2.1 (by decide) ?_
            refine X_lv [(3, .int (iI (z109 + 1))), (0, .ref a0), (1, .int (iI x1)), (2, .int (iI x2))] [0, 2, 3, 4] rfl ?_
            exact ihP136  g110 (xM.tr xM.rf xLe.rf hg110 (by decide)) (z109 + 1) (by omega) (by omega) (by have h9 := v137; rw [xlf9.s (by omega), if_neg (fun q9 => by have h8 := q9.1; rw [← (ht9.2.2 z109 (by omega) (by omega)).1, hx154] at h8; omega)] at h9; exact h9) (by omega)
          · refine X_aloadn hK (i := 0) 2 kd53_64.2.2.2.2.2.2.2.2.2.1 rfl rfl ?_
            refine X_iloadn hK (i := 1) 3 kd53_64.2.2.2.2.2.2.2.2.2.2.1 rfl rfl ?_
            refine X_aloadn hK (i := 0) 2 kd53_64.2.2.2.2.2.2.2.2.2.2.2 rfl rfl ?_
            refine X_getK hK fl_X12_62_13 hs_a0 ((hg110 a0 13 0 33 hs_a0 (by decide)).trans ((xs_k hg1 (by decide)).trans ewcf)) kd53_65.1 ?_
            refine X_iload hK (i := 4) 0 kd53_65.2.1 rfl ?_
            refine X_iald hK hs_wcf (by decide) sl_15700 (by omega) (by omega) kd53_65.2.2.1 (fun z156 ez156 lz156 uz156 => ?_)
            have hw157 : xv g wcf ((16 * x1) + z109) = z156 := (by rw [← (Eq.trans (xv_m hg110 hs_wcf (by decide) (by decide)) (xv_a hg1 (xne hs_wcf hs_a0 (by decide))))]; exact (xv_e (j := ((16 * x1) + z109)) ez156 (by omega)))
            have hx158 : xv g wcf (16 * x1 + z109) = z156 := hw157
            refine X_aloadn hK (i := 0) 2 kd53_65.2.2.2.1 rfl rfl ?_
            refine X_getK hK fl_X12_65_13 hs_a0 ((hg110 a0 13 0 34 hs_a0 (by decide)).trans ((xs_k hg1 (by decide)).trans ewct)) kd53_65.2.2.2.2.1 ?_
            refine X_iload hK (i := 4) 0 kd53_65.2.2.2.2.2.1 rfl ?_
            refine X_iald hK hs_wct (by decide) sl_15800 (by omega) (by omega) kd53_65.2.2.2.2.2.2.1 (fun z159 ez159 lz159 uz159 => ?_)
            have hw160 : xv g wct ((16 * x1) + z109) = z159 := (by rw [← (Eq.trans (xv_m hg110 hs_wct (by decide) (by decide)) (xv_a hg1 (xne hs_wct hs_a0 (by decide))))]; exact (xv_e (j := ((16 * x1) + z109)) ez159 (by omega)))
            have hx161 : xv g wct (16 * x1 + z109) = z159 := hw160
            refine X_callV hK [.int (iI x1), .int (iI z156), .int (iI z159)] [] lk_X12_379 (m_mholds _ _ _ _ _ S g110 a0 x1 z156 z159 wc wv wp wq wn F (xgl9 T z109.toNat).2.2 hs_a0 (by omega) (by omega) (by omega) ((hg110 a0 13 0 45 hs_a0 (by decide)).trans ((xs_k hg1 (by decide)).trans ewc)) hs_wc ((hg110 a0 13 0 46 hs_a0 (by decide)).trans ((xs_k hg1 (by decide)).trans ewv)) hs_wv ((hg110 a0 13 0 35 hs_a0 (by decide)).trans ((xs_k hg1 (by decide)).trans ewp)) hs_wp ((hg110 a0 13 0 36 hs_a0 (by decide)).trans ((xs_k hg1 (by decide)).trans ewq)) hs_wq ((hg110 a0 13 0 37 hs_a0 (by decide)).trans ((xs_k hg1 (by decide)).trans ewn)) hs_wn (by rw [(Eq.trans (xv_m hg110 hs_wc (by decide) (by decide)) (xv_a hg1 (xne hs_wc hs_a0 (by decide))))]; exact hp0) hp1 (by have h9 := (ht9.2.2 z109 (by omega) (by omega)).2.2.2.2.2.1; rw [hx158] at h9; rw [(Eq.trans (xv_m hg110 hs_wp (by decide) (by decide)) (xv_a hg1 (xne hs_wp hs_a0 (by decide)))), (Eq.trans (xv_m hg110 hs_wq (by decide) (by decide)) (xv_a hg1 (xne hs_wq hs_a0 (by decide)))), (Eq.trans (xv_m hg110 hs_wn (by decide) (by decide)) (xv_a hg1 (xne hs_wn hs_a0 (by decide))))]; exact h9) (by have h9 := (ht9.2.2 z109 (by omega) (by omega)).2.2.2.1; rw [hx161, hx158] at h9; exact h9) (ht9.2.2 z109 (by omega) (by omega)).2.2.2.2.2.2.1) hs_a0 ⟨by decide, rfl⟩ kd53_65.2.2.2.2.2.2.2.1 rfl rfl (by simp [Value.category]) (by decide) (by decide) (by decide) (by decide) (fun r162 S164 g163 pr162 qr162 hg163 => ?_)
            obtain ⟨rfl, z165, rfl, lz165, uz165, k166⟩ := pr162
            refine X_st [.int (iI z165)] rfl ?_
            refine X_if_ne hK 66 (by omega) kd53_65.2.2.2.2.2.2.2.2.1 (by decide) (fun c167 => ?_) (fun c167 => ?_)
            · refine X_aloadn hK (i := 0) 2 kd53_65.2.2.2.2.2.2.2.2.2.2.1 rfl rfl ?_
              refine X_iloadn hK (i := 3) 1 kd53_65.2.2.2.2.2.2.2.2.2.2.2 rfl rfl ?_
              refine X_puti hK fl_X12_86_13 hs_a0 (by decide) sl_13_47 (by omega) (by omega) kd53_66.1 (fun g168 hg168 => ?_)
              refine X_aloadn hK (i := 0) 2 kd53_66.2.1 rfl rfl ?_
              refine X_getK hK fl_X12_59_13 hs_a0 ((xs_k hg168 (by decide)).trans ((hg163 a0 13 0 32 hs_a0 (by decide)).trans ((hg110 a0 13 0 32 hs_a0 (by decide)).trans ((xs_k hg1 (by decide)).trans ewam)))) kd53_66.2.2.1 ?_
              refine X_iload hK (i := 4) 0 kd53_66.2.2.2.1 rfl ?_
              refine X_iald hK hs_wam (by decide) sl_15600 (by omega) (by omega) kd53_66.2.2.2.2.1 (fun z169 ez169 lz169 uz169 => ?_)
              have hw170 : xv g wam ((16 * x1) + z109) = z169 := (by rw [← (Eq.trans (Eq.trans (Eq.trans (xv_a hg168 (xne hs_wam hs_a0 (by decide))) (xv_m hg163 hs_wam (by decide) (by decide))) (xv_m hg110 hs_wam (by decide) (by decide))) (xv_a hg1 (xne hs_wam hs_a0 (by decide))))]; exact (xv_e (j := ((16 * x1) + z109)) ez169 (by omega)))
              have hx171 : xv g wam (16 * x1 + z109) = z169 := hw170
              have ab172 := (ht9.2.2 z109 (by omega) (by omega)).2.2.2.2.2.2.2
              rw [← (ht9.2.2 z109 (by omega) (by omega)).2.1, hx171] at ab172
              exact hret _ _ _ _ _ _ _ kd53_66.2.2.2.2.2.1 ⟨rfl, z169, rfl, (by omega), (by omega), (by rw [← v137, xlf9.s (by omega), if_pos ⟨by rw [← (ht9.2.2 z109 (by omega) (by omega)).1, hx154]; omega, k166.mp (by omega)⟩]; unfold xnb9; rw [if_neg (by omega), ← (ht9.2.2 z109 (by omega) (by omega)).2.1]; exact hx171.symm)⟩ (Nat.le_refl _) (Nat.le_refl _)
            · refine X_goto hK 79 kd53_65.2.2.2.2.2.2.2.2.2.1 (by decide) ?_
              refine X_iinc hK (i := 3) (z := z109) (n := 1) 1 [(3, .int (iI (z109 + 1))), (4, .int (iI ((16 * x1) + z109))), (0, .ref a0), (1, .int (iI x1)), (2, .int (iI x2))] kd53_66.2.2.2.2.2.2.1 rfl (by decide) rfl ?_
              refine X_goto hK 7 kd53_66.2.2.2.2.2.2.2.1 (by decide) ?_
              refine X_lv [(3, .int (iI (z109 + 1))), (0, .ref a0), (1, .int (iI x1)), (2, .int (iI x2))] [0, 2, 3, 4] rfl ?_
              exact ihP136  g163 (xM.tr (xM.tr xM.rf xLe.rf hg110 (by decide)) xLe.rf hg163 (by decide)) (z109 + 1) (by omega) (by omega) (by have h9 := v137; rw [xlf9.s (by omega), if_neg (fun q9 => by have h8 := k166.mpr q9.2; omega)] at h9; exact h9) (by omega)
  exact P136 ((40 - 0 : Int).toNat + 1) g1 xM.rf 0 (by omega) (by omega) rfl (by omega)
