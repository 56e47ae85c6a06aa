
def xkf (bo pa co ho ow fi : Int → Int) (k : Int) : Int := 200 * xky9 (co k) (pa k) (ho k) (if ow (co k) = bo k then 1 else 0) (fi (bo k)) + k
def xFs (n : Int) (cr co pa K : Int → Int) (c p r : Int) : Prop := (r = -1 ∧ ∀ k : Int, 0 ≤ k → k < n → cr k = 0 → co k = c → pa k = p → False) ∨ ((0 ≤ r ∧ r < n) ∧ cr r = 0 ∧ co r = c ∧ pa r = p ∧ ∀ k : Int, 0 ≤ k → k < n → cr k = 0 → co k = c → pa k = p → K r ≤ K k)
section XFS
variable {n c p r : Int} {cr co pa K : Int → Int}
theorem xFs.z : xFs 0 cr co pa K c p (-1) := Or.inl ⟨rfl, fun k q1 q2 => by omega⟩
theorem xFs.skip (h : xFs n cr co pa K c p r) (hn : ¬ (cr n = 0 ∧ co n = c ∧ pa n = p)) : xFs (n + 1) cr co pa K c p r := by
  rcases h with ⟨a, b⟩ | ⟨a, b1, b2, b3, b⟩
  · refine Or.inl ⟨a, fun k q1 q2 q3 q4 q5 => ?_⟩
    by_cases e : k = n
    · subst e; exact hn ⟨q3, q4, q5⟩
    · exact b k q1 (by omega) q3 q4 q5
  · refine Or.inr ⟨by omega, b1, b2, b3, fun k q1 q2 q3 q4 q5 => ?_⟩
    by_cases e : k = n
    · subst e; exact absurd ⟨q3, q4, q5⟩ hn
    · exact b k q1 (by omega) q3 q4 q5
theorem xFs.take (h : xFs n cr co pa K c p r) (h0 : 0 ≤ n) (hn : cr n = 0 ∧ co n = c ∧ pa n = p) (hk : r = -1 ∨ K n < K r) : xFs (n + 1) cr co pa K c p n := by
  refine Or.inr ⟨by omega, hn.1, hn.2.1, hn.2.2, fun k q1 q2 q3 q4 q5 => ?_⟩
  by_cases e : k = n
  · rw [e]; exact Int.le_refl _
  · rcases h with ⟨a, b⟩ | ⟨a, b1, b2, b3, b⟩
    · exact absurd (b k q1 (by omega) q3 q4 q5) id
    · have := b k q1 (by omega) q3 q4 q5
      rcases hk with z | z
      · omega
      · omega
theorem xFs.keep (h : xFs n cr co pa K c p r) (hr : r ≠ -1) (hk : K r ≤ K n) : xFs (n + 1) cr co pa K c p r := by
  rcases h with ⟨a, b⟩ | ⟨a, b1, b2, b3, b⟩
  · exact absurd a hr
  · refine Or.inr ⟨by omega, b1, b2, b3, fun k q1 q2 q3 q4 q5 => ?_⟩
    by_cases e : k = n
    · rw [e]; exact hk
    · exact b k q1 (by omega) q3 q4 q5
end XFS
def xHR (n : Int) (bo ho fi : Int → Int) : Prop := ∀ k : Int, 0 ≤ k → k < n → (0 ≤ ho k ∧ ho k ≤ 31) ∧ (0 ≤ fi (bo k) ∧ fi (bo k) ≤ 99)
set_option maxHeartbeats 4000000 in
set_option maxRecDepth 100000 in
theorem m_misAhead (l : Launch) (D : va_G) (kA : Nat → ClassId) (b0 : Nat) (t0 : Nat → Nat) (S : xT) (g : xG) (a0 : Nat) (x1 : Int) (x2 : Int) (wbo : Nat) (wpa : Nat) (wco : Nat) (who : Nat) (wow : Nat) (wfi : Nat) (hs_a0 : S a0 = some (13, 0)) (hx1 : 0 ≤ x1 ∧ x1 ≤ 199) (hx2 : 0 ≤ x2 ∧ x2 ≤ 199) (ewbo : g a0 48 = .ref wbo) (hs_wbo : S wbo = some (16400, 200)) (ewpa : g a0 49 = .ref wpa) (hs_wpa : S wpa = some (16500, 200)) (ewco : g a0 50 = .ref wco) (hs_wco : S wco = some (16600, 200)) (ewho : g a0 52 = .ref who) (hs_who : S who = some (16800, 200)) (ewow : g a0 9 = .ref wow) (hs_wow : S wow = some (14600, 10)) (ewfi : g a0 6 = .ref wfi) (hs_wfi : S wfi = some (14400, 40)) (hp0 : xv g wco x1 = xv g wco x2 ∧ xv g wpa x1 = xv g wpa x2) (hp1 : ((0 ≤ xv g who x1 ∧ xv g who x1 ≤ 31) ∧ (0 ≤ xv g wfi (xv g wbo x1) ∧ xv g wfi (xv g wbo x1) ≤ 99)) ∧ ((0 ≤ xv g who x2 ∧ xv g who x2 ≤ 31) ∧ (0 ≤ xv g wfi (xv g wbo x2) ∧ xv g wfi (xv g wbo x2) ≤ 99))) : xMt l yX12_isAhead cX12_isAhead 5 (some .boolean) 0 0 0 0 D kA b0 t0 [] [.ref a0, .int (iI x1), .int (iI x2)] S g (fun (r : Option Value) (S1 : xT) (g1 : xG) => S = S1 ∧ g = g1 ∧ ∃ z : Int, r = some (.int (iI z)) ∧ 0 ≤ z ∧ z ≤ 1 ∧ ((z = 1 ↔ (xkf (xv g wbo) (xv g wpa) (xv g wco) (xv g who) (xv g wow) (xv g wfi)) x1 < (xkf (xv g wbo) (xv g wpa) (xv g wco) (xv g who) (xv g wow) (xv g wfi)) x2))) := by
  refine xEnterZ (by decide) (by simp [lg_sl, Value.category]) [(0, .ref a0), (1, .int (iI x1)), (2, .int (iI x2))] rfl ?_
  intro K E hK hret _ _ _
  refine X_aloadn hK (i := 0) 0 kd28_87.2.2.2.2.2.2.2.2.2.2.1 rfl rfl ?_
  refine X_getK hK fl_X12_102_13 hs_a0 ewho kd28_87.2.2.2.2.2.2.2.2.2.2.2 ?_
  refine X_iloadn hK (i := 1) 1 kd28_88.1 rfl rfl ?_
  refine X_iald hK hs_who (by decide) sl_16800 (by omega) (by omega) kd28_88.2.1 (fun z1 ez1 lz1 uz1 => ?_)
  have hw2 : xv g who x1 = z1 := xv_e (j := x1) ez1 (by omega)
  refine X_aloadn hK (i := 0) 0 kd28_88.2.2.1 rfl rfl ?_
  refine X_getK hK fl_X12_102_13 hs_a0 ewho kd28_88.2.2.2.1 ?_
  refine X_iloadn hK (i := 2) 2 kd28_88.2.2.2.2.1 rfl rfl ?_
  refine X_iald hK hs_who (by decide) sl_16800 (by omega) (by omega) kd28_88.2.2.2.2.2.1 (fun z3 ez3 lz3 uz3 => ?_)
  have hw4 : xv g who x2 = z3 := xv_e (j := x2) ez3 (by omega)
  refine X_icmp_eq hK 36 (by omega) (by omega) kd28_88.2.2.2.2.2.2.1 (by decide) (fun c5 => ?_) (fun c5 => ?_)
  · refine X_aloadn hK (i := 0) 0 kd28_89.2.2.2.2.2.2.2.2.1 rfl rfl ?_
    refine X_getK hK fl_X12_29_13 hs_a0 ewow kd28_89.2.2.2.2.2.2.2.2.2.1 ?_
    refine X_aloadn hK (i := 0) 0 kd28_89.2.2.2.2.2.2.2.2.2.2.1 rfl rfl ?_
    refine X_getK hK fl_X12_96_13 hs_a0 ewco kd28_89.2.2.2.2.2.2.2.2.2.2.2 ?_
    refine X_iloadn hK (i := 1) 1 kd28_90.1 rfl rfl ?_
    refine X_iald hK hs_wco (by decide) sl_16600 (by omega) (by omega) kd28_90.2.1 (fun z6 ez6 lz6 uz6 => ?_)
    have hw7 : xv g wco x1 = z6 := xv_e (j := x1) ez6 (by omega)
    refine X_iald hK hs_wow (by decide) sl_14600 (by omega) (by omega) kd28_90.2.2.1 (fun z8 ez8 lz8 uz8 => ?_)
    have hw9 : xv g wow z6 = z8 := xv_e (j := z6) ez8 (by omega)
    refine X_aloadn hK (i := 0) 0 kd28_90.2.2.2.1 rfl rfl ?_
    refine X_getK hK fl_X12_90_13 hs_a0 ewbo kd28_90.2.2.2.2.1 ?_
    refine X_iloadn hK (i := 1) 1 kd28_90.2.2.2.2.2.1 rfl rfl ?_
    refine X_iald hK hs_wbo (by decide) sl_16400 (by omega) (by omega) kd28_90.2.2.2.2.2.2.1 (fun z10 ez10 lz10 uz10 => ?_)
    have hw11 : xv g wbo x1 = z10 := xv_e (j := x1) ez10 (by omega)
    have J14 : ∀ (z13 : Int) (lz13 : 0 ≤ z13) (uz13 : z13 ≤ 1) (m15 : (if xv g wow (xv g wco x1) = xv g wbo x1 then (1 : Int) else 0) = z13), X K E 61 [(0, .ref a0), (1, .int (iI x1)), (2, .int (iI x2))] [.int (iI z13)] S g 0 0 := by
      intro z13 lz13 uz13 m15
      refine X_istoren hK (i := 3) [(3, .int (iI z13)), (0, .ref a0), (1, .int (iI x1)), (2, .int (iI x2))] kd28_90.2.2.2.2.2.2.2.2.2.2.2 rfl (by decide) rfl ?_
      refine X_aloadn hK (i := 0) 1 kd28_91.1 rfl rfl ?_
      refine X_getK hK fl_X12_29_13 hs_a0 ewow kd28_91.2.1 ?_
      refine X_aloadn hK (i := 0) 1 kd28_91.2.2.1 rfl rfl ?_
      refine X_getK hK fl_X12_96_13 hs_a0 ewco kd28_91.2.2.2.1 ?_
      refine X_iloadn hK (i := 2) 3 kd28_91.2.2.2.2.1 rfl rfl ?_
      refine X_iald hK hs_wco (by decide) sl_16600 (by omega) (by omega) kd28_91.2.2.2.2.2.1 (fun z16 ez16 lz16 uz16 => ?_)
      have hw17 : xv g wco x2 = z16 := xv_e (j := x2) ez16 (by omega)
      refine X_iald hK hs_wow (by decide) sl_14600 (by omega) (by omega) kd28_91.2.2.2.2.2.2.1 (fun z18 ez18 lz18 uz18 => ?_)
      have hw19 : xv g wow z16 = z18 := xv_e (j := z16) ez18 (by omega)
      refine X_aloadn hK (i := 0) 1 kd28_91.2.2.2.2.2.2.2.1 rfl rfl ?_
      refine X_getK hK fl_X12_90_13 hs_a0 ewbo kd28_91.2.2.2.2.2.2.2.2.1 ?_
      refine X_iloadn hK (i := 2) 3 kd28_91.2.2.2.2.2.2.2.2.2.1 rfl rfl ?_
      refine X_iald hK hs_wbo (by decide) sl_16400 (by omega) (by omega) kd28_91.2.2.2.2.2.2.2.2.2.2.1 (fun z20 ez20 lz20 uz20 => ?_)
      have hw21 : xv g wbo x2 = z20 := xv_e (j := x2) ez20 (by omega)
      have J24 : ∀ (z23 : Int) (lz23 : 0 ≤ z23) (uz23 : z23 ≤ 1) (m25 : (if xv g wow (xv g wco x2) = xv g wbo x2 then (1 : Int) else 0) = z23), X K E 87 [(3, .int (iI z13)), (0, .ref a0), (1, .int (iI x1)), (2, .int (iI x2))] [.int (iI z23)] S g 0 0 := by
        intro z23 lz23 uz23 m25
        refine X_istore hK (i := 4) [(4, .int (iI z23)), (3, .int (iI z13)), (0, .ref a0), (1, .int (iI x1)), (2, .int (iI x2))] kd28_92.2.2.2.1 (by decide) rfl ?_
        refine X_iloadn hK (i := 3) 1 kd28_92.2.2.2.2.1 rfl rfl ?_
        refine X_iload hK (i := 4) 0 kd28_92.2.2.2.2.2.1 rfl ?_
        refine X_icmp_eq hK 97 (by omega) (by omega) kd28_92.2.2.2.2.2.2.1 (by decide) (fun c26 => ?_) (fun c26 => ?_)
        · refine X_aloadn hK (i := 0) 2 kd28_92.2.2.2.2.2.2.2.2.2.1 rfl rfl ?_
          refine X_getK hK fl_X12_19_13 hs_a0 ewfi kd28_92.2.2.2.2.2.2.2.2.2.2.1 ?_
          refine X_aloadn hK (i := 0) 2 kd28_92.2.2.2.2.2.2.2.2.2.2.2 rfl rfl ?_
          refine X_getK hK fl_X12_90_13 hs_a0 ewbo kd28_93.1 ?_
          refine X_iloadn hK (i := 1) 3 kd28_93.2.1 rfl rfl ?_
          refine X_ialdK hK hs_wbo (by decide) (by omega) (by omega) ez10 kd28_93.2.2.1 ?_
          have hw27 : xv g wbo x1 = z10 := xv_e (j := x1) ez10 (by omega)
          refine X_iald hK hs_wfi (by decide) sl_14400 (by omega) (by omega) kd28_93.2.2.2.1 (fun z28 ez28 lz28 uz28 => ?_)
          have hw29 : xv g wfi z10 = z28 := xv_e (j := z10) ez28 (by omega)
          refine X_aloadn hK (i := 0) 2 kd28_93.2.2.2.2.1 rfl rfl ?_
          refine X_getK hK fl_X12_19_13 hs_a0 ewfi kd28_93.2.2.2.2.2.1 ?_
          refine X_aloadn hK (i := 0) 2 kd28_93.2.2.2.2.2.2.1 rfl rfl ?_
          refine X_getK hK fl_X12_90_13 hs_a0 ewbo kd28_93.2.2.2.2.2.2.2.1 ?_
          refine X_iloadn hK (i := 2) 4 kd28_93.2.2.2.2.2.2.2.2.1 rfl rfl ?_
          refine X_ialdK hK hs_wbo (by decide) (by omega) (by omega) ez20 kd28_93.2.2.2.2.2.2.2.2.2.1 ?_
          have hw30 : xv g wbo x2 = z20 := xv_e (j := x2) ez20 (by omega)
          refine X_iald hK hs_wfi (by decide) sl_14400 (by omega) (by omega) kd28_93.2.2.2.2.2.2.2.2.2.2.1 (fun z31 ez31 lz31 uz31 => ?_)
          have hw32 : xv g wfi z20 = z31 := xv_e (j := z20) ez31 (by omega)
          refine X_icmp_eq hK 155 (by omega) (by omega) kd28_93.2.2.2.2.2.2.2.2.2.2.2 (by decide) (fun c33 => ?_) (fun c33 => ?_)
          · refine X_iloadn hK (i := 1) 3 kd28_95.2.2.2.2.2.2.2.1 rfl rfl ?_
            refine X_iloadn hK (i := 2) 4 kd28_95.2.2.2.2.2.2.2.2.1 rfl rfl ?_
            refine X_icmp_ge hK 164 (by omega) (by omega) kd28_95.2.2.2.2.2.2.2.2.2.1 (by decide) (fun c34 => ?_) (fun c34 => ?_)
            · refine X_iconst hK kd28_96.1 ?_
              exact hret _ _ _ _ _ _ _ kd28_96.2.1 (by omega) (by omega) ⟨rfl, rfl, 0, rfl, (by omega), (by omega), (by unfold xkf xky9; have h8 := hp0; have h7 := hp1; rw [m15, m25]; have h40 := hw2; have h41 := hw4; have h44 := hw27; have h47 := hw30; have h48 := hw29; have h49 := hw32; (try rw [hw27] at *); (try rw [hw30] at *); omega)⟩ (Nat.le_refl _) (Nat.le_refl _)
            · refine X_iconst hK kd28_95.2.2.2.2.2.2.2.2.2.2.1 ?_
              refine X_goto hK 165 kd28_95.2.2.2.2.2.2.2.2.2.2.2 (by decide) ?_
              exact hret _ _ _ _ _ _ _ kd28_96.2.1 (by omega) (by omega) ⟨rfl, rfl, 1, rfl, (by omega), (by omega), (by unfold xkf xky9; have h8 := hp0; have h7 := hp1; rw [m15, m25]; have h40 := hw2; have h41 := hw4; have h44 := hw27; have h47 := hw30; have h48 := hw29; have h49 := hw32; (try rw [hw27] at *); (try rw [hw30] at *); omega)⟩ (Nat.le_refl _) (Nat.le_refl _)
          · refine X_aloadn hK (i := 0) 2 kd28_94.1 rfl rfl ?_
            refine X_getK hK fl_X12_19_13 hs_a0 ewfi kd28_94.2.1 ?_
            refine X_aloadn hK (i := 0) 2 kd28_94.2.2.1 rfl rfl ?_
            refine X_getK hK fl_X12_90_13 hs_a0 ewbo kd28_94.2.2.2.1 ?_
            refine X_iloadn hK (i := 1) 3 kd28_94.2.2.2.2.1 rfl rfl ?_
            refine X_ialdK hK hs_wbo (by decide) (by omega) (by omega) ez10 kd28_94.2.2.2.2.2.1 ?_
            have hw35 : xv g wbo x1 = z10 := xv_e (j := x1) ez10 (by omega)
            refine X_ialdK hK hs_wfi (by decide) (by omega) (by omega) ez28 kd28_94.2.2.2.2.2.2.1 ?_
            have hw36 : xv g wfi z10 = z28 := xv_e (j := z10) ez28 (by omega)
            refine X_aloadn hK (i := 0) 2 kd28_94.2.2.2.2.2.2.2.1 rfl rfl ?_
            refine X_getK hK fl_X12_19_13 hs_a0 ewfi kd28_94.2.2.2.2.2.2.2.2.1 ?_
            refine X_aloadn hK (i := 0) 2 kd28_94.2.2.2.2.2.2.2.2.2.1 rfl rfl ?_
            refine X_getK hK fl_X12_90_13 hs_a0 ewbo kd28_94.2.2.2.2.2.2.2.2.2.2.1 ?_
            refine X_iloadn hK (i := 2) 4 kd28_94.2.2.2.2.2.2.2.2.2.2.2 rfl rfl ?_
            refine X_ialdK hK hs_wbo (by decide) (by omega) (by omega) ez20 kd28_95.1 ?_
            have hw37 : xv g wbo x2 = z20 := xv_e (j := x2) ez20 (by omega)
            refine X_ialdK hK hs_wfi (by decide) (by omega) (by omega) ez31 kd28_95.2.1 ?_
            have hw38 : xv g wfi z20 = z31 := xv_e (j := z20) ez31 (by omega)
            refine X_icmp_le hK 151 (by omega) (by omega) kd28_95.2.2.1 (by decide) (fun c39 => ?_) (fun c39 => ?_)
            · refine X_iconst hK kd28_95.2.2.2.2.2.1 ?_
              refine X_goto hK 165 kd28_95.2.2.2.2.2.2.1 (by decide) ?_
              exact hret _ _ _ _ _ _ _ kd28_96.2.1 (by omega) (by omega) ⟨rfl, rfl, 0, rfl, (by omega), (by omega), (by unfold xkf xky9; have h8 := hp0; have h7 := hp1; rw [m15, m25]; have h40 := hw2; have h41 := hw4; have h44 := hw35; have h47 := hw37; have h48 := hw36; have h49 := hw38; (try rw [hw35] at *); (try rw [hw37] at *); omega)⟩ (Nat.le_refl _) (Nat.le_refl _)
            · refine X_iconst hK kd28_95.2.2.2.1 ?_
              refine X_goto hK 165 kd28_95.2.2.2.2.1 (by decide) ?_
              exact hret _ _ _ _ _ _ _ kd28_96.2.1 (by omega) (by omega) ⟨rfl, rfl, 1, rfl, (by omega), (by omega), (by unfold xkf xky9; have h8 := hp0; have h7 := hp1; rw [m15, m25]; have h40 := hw2; have h41 := hw4; have h44 := hw35; have h47 := hw37; have h48 := hw36; have h49 := hw38; (try rw [hw35] at *); (try rw [hw37] at *); omega)⟩ (Nat.le_refl _) (Nat.le_refl _)
        · refine X_iloadn hK (i := 3) 1 kd28_92.2.2.2.2.2.2.2.1 rfl rfl ?_
          exact hret _ _ _ _ _ _ _ kd28_92.2.2.2.2.2.2.2.2.1 (by omega) (by omega) ⟨rfl, rfl, z13, rfl, (by omega), (by omega), (by unfold xkf xky9; have h8 := hp0; have h7 := hp1; rw [m15, m25]; have h40 := hw2; have h41 := hw4; have h44 := hw11; have h47 := hw21; omega)⟩ (Nat.le_refl _) (Nat.le_refl _)
      refine X_icmp_ne hK 86 (by omega) (by omega) kd28_91.2.2.2.2.2.2.2.2.2.2.2 (by decide) (fun c22 => ?_) (fun c22 => ?_)
      · refine X_iconst hK kd28_92.2.2.1 ?_
        exact J24 0 (by omega) (by omega) (by rw [hw17, hw19, hw21, if_neg (by omega)])
      · refine X_iconst hK kd28_92.1 ?_
        refine X_goto hK 87 kd28_92.2.1 (by decide) ?_
        exact J24 1 (by omega) (by omega) (by rw [hw17, hw19, hw21, if_pos (by omega)])
    refine X_icmp_ne hK 60 (by omega) (by omega) kd28_90.2.2.2.2.2.2.2.1 (by decide) (fun c12 => ?_) (fun c12 => ?_)
    · refine X_iconst hK kd28_90.2.2.2.2.2.2.2.2.2.2.1 ?_
      exact J14 0 (by omega) (by omega) (by rw [hw7, hw9, hw11, if_neg (by omega)])
    · refine X_iconst hK kd28_90.2.2.2.2.2.2.2.2.1 ?_
      refine X_goto hK 61 kd28_90.2.2.2.2.2.2.2.2.2.1 (by decide) ?_
      exact J14 1 (by omega) (by omega) (by rw [hw7, hw9, hw11, if_pos (by omega)])
  · refine X_aloadn hK (i := 0) 0 kd28_88.2.2.2.2.2.2.2.1 rfl rfl ?_
    refine X_getK hK fl_X12_102_13 hs_a0 ewho kd28_88.2.2.2.2.2.2.2.2.1 ?_
    refine X_iloadn hK (i := 1) 1 kd28_88.2.2.2.2.2.2.2.2.2.1 rfl rfl ?_
    refine X_ialdK hK hs_who (by decide) (by omega) (by omega) ez1 kd28_88.2.2.2.2.2.2.2.2.2.2.1 ?_
    have hw40 : xv g who x1 = z1 := xv_e (j := x1) ez1 (by omega)
    refine X_aloadn hK (i := 0) 0 kd28_88.2.2.2.2.2.2.2.2.2.2.2 rfl rfl ?_
    refine X_getK hK fl_X12_102_13 hs_a0 ewho kd28_89.1 ?_
    refine X_iloadn hK (i := 2) 2 kd28_89.2.1 rfl rfl ?_
    refine X_ialdK hK hs_who (by decide) (by omega) (by omega) ez3 kd28_89.2.2.1 ?_
    have hw41 : xv g who x2 = z3 := xv_e (j := x2) ez3 (by omega)
    refine X_icmp_ge hK 34 (by omega) (by omega) kd28_89.2.2.2.1 (by decide) (fun c42 => ?_) (fun c42 => ?_)
    · refine X_iconst hK kd28_89.2.2.2.2.2.2.1 ?_
      exact hret _ _ _ _ _ _ _ kd28_89.2.2.2.2.2.2.2.1 (by omega) (by omega) ⟨rfl, rfl, 0, rfl, (by omega), (by omega), (by unfold xkf xky9; have h8 := hp0; have h7 := hp1; have h6 := xow01 (xv g wow (xv g wco x1) = xv g wbo x1); have h5 := xow01 (xv g wow (xv g wco x2) = xv g wbo x2); generalize (if xv g wow (xv g wco x1) = xv g wbo x1 then (1 : Int) else 0) = oa at h6 ⊢; generalize (if xv g wow (xv g wco x2) = xv g wbo x2 then (1 : Int) else 0) = ob at h5 ⊢; have h40 := hw40; have h41 := hw41; omega)⟩ (Nat.le_refl _) (Nat.le_refl _)
    · refine X_iconst hK kd28_89.2.2.2.2.1 ?_
      refine X_goto hK 35 kd28_89.2.2.2.2.2.1 (by decide) ?_
      exact hret _ _ _ _ _ _ _ kd28_89.2.2.2.2.2.2.2.1 (by omega) (by omega) ⟨rfl, rfl, 1, rfl, (by omega), (by omega), (by unfold xkf xky9; have h8 := hp0; have h7 := hp1; have h6 := xow01 (xv g wow (xv g wco x1) = xv g wbo x1); have h5 := xow01 (xv g wow (xv g wco x2) = xv g wbo x2); generalize (if xv g wow (xv g wco x1) = xv g wbo x1 then (1 : Int) else 0) = oa at h6 ⊢; generalize (if xv g wow (xv g wco x2) = xv g wbo x2 then (1 : Int) else 0) = ob at h5 ⊢; have h40 := hw40; have h41 := hw41; omega)⟩ (Nat.le_refl _) (Nat.le_refl _)

set_option maxHeartbeats 4000000 in
set_option maxRecDepth 100000 in
theorem m_firstAt (l : Launch) (D : va_G) (kA : Nat → ClassId) (b0 : Nat) (t0 : Nat → Nat) (S : xT) (g : xG) (a0 : Nat) (x1 : Int) (x2 : Int) (nu : Int) (wc : Nat) (wbo : Nat) (wpa : Nat) (wco : Nat) (who : Nat) (wow : Nat) (wfi : Nat) (hs_a0 : S a0 = some (13, 0)) (hx1 : 0 ≤ x1 ∧ x1 ≤ 9) (hx2 : 0 ≤ x2 ∧ x2 ≤ 3) (hnu : 0 ≤ nu ∧ nu ≤ 200) (enu : g a0 58 = .int (iI nu)) (ewc : g a0 62 = .ref wc) (hs_wc : S wc = some (19501, 200)) (ewbo : g a0 48 = .ref wbo) (hs_wbo : S wbo = some (16400, 200)) (ewpa : g a0 49 = .ref wpa) (hs_wpa : S wpa = some (16500, 200)) (ewco : g a0 50 = .ref wco) (hs_wco : S wco = some (16600, 200)) (ewho : g a0 52 = .ref who) (hs_who : S who = some (16800, 200)) (ewow : g a0 9 = .ref wow) (hs_wow : S wow = some (14600, 10)) (ewfi : g a0 6 = .ref wfi) (hs_wfi : S wfi = some (14400, 40)) (hp0 : xHR nu (xv g wbo) (xv g who) (xv g wfi)) : xMt l yX12_firstAt cX12_firstAt 5 (some .int) 1 0 0 24 D kA b0 t0 [] [.ref a0, .int (iI x1), .int (iI x2)] S g (fun (r : Option Value) (S1 : xT) (g1 : xG) => S = S1 ∧ g = g1 ∧ ∃ z : Int, r = some (.int (iI z)) ∧ (-1) ≤ z ∧ z ≤ 199 ∧ (xFs nu (xv g wc) (xv g wco) (xv g wpa) (xkf (xv g wbo) (xv g wpa) (xv g wco) (xv g who) (xv g wow) (xv g wfi)) x1 x2 z)) := by
  refine xEnterI (by decide) (by simp [lg_sl, Value.category]) [(0, .ref a0), (1, .int (iI x1)), (2, .int (iI x2))] rfl ?_
  intro K E hK hret _ _ _
  refine X_iconst hK kd28_66.2.2.2.2.2.1 ?_
  refine X_istoren hK (i := 3) [(3, .int (iI (-1))), (0, .ref a0), (1, .int (iI x1)), (2, .int (iI x2))] kd28_66.2.2.2.2.2.2.1 rfl (by decide) rfl ?_
  refine X_iconst hK kd28_66.2.2.2.2.2.2.2.1 ?_
  refine X_istore hK (i := 4) [(4, .int (iI 0)), (3, .int (iI (-1))), (0, .ref a0), (1, .int (iI x1)), (2, .int (iI x2))] kd28_66.2.2.2.2.2.2.2.2.1 (by decide) rfl ?_
  have P65 : ∀ (nP65 : Nat) (z49 : Int) (_ : 0 ≤ z49) (_ : z49 ≤ 200) (z50 : Int) (_ : (-1) ≤ z50) (_ : z50 ≤ 199) (_ : xFs z49 (xv g wc) (xv g wco) (xv g wpa) (xkf (xv g wbo) (xv g wpa) (xv g wco) (xv g who) (xv g wow) (xv g wfi)) x1 x2 z50) (_ : z49 ≤ nu) (_ : 300 - z49 < (nP65 : Int)), X K E 5 [(4, .int (iI z49)), (3, .int (iI z50)), (0, .ref a0), (1, .int (iI x1)), (2, .int (iI x2))] [] S g 0 0 := by
    intro nP65
    induction nP65 with
    | zero => intro z49 lz49 uz49 z50 lz50 uz50 v66 v67 mP65; exact False.elim (by omega)
    | succ nP65 ihP65 =>
      intro z49 lz49 uz49 z50 lz50 uz50 v66 v67 mP65
      refine X_iload hK (i := 4) 0 kd28_66.2.2.2.2.2.2.2.2.2.1 rfl ?_
      have hb5 : z50 < z49 ∨ z50 = -1 := by rcases v66 with h9 | h9; exact Or.inr h9.1; exact Or.inl h9.1.2
      refine X_aloadn hK (i := 0) 2 kd28_66.2.2.2.2.2.2.2.2.2.2.1 rfl rfl ?_
      refine X_getK hK fl_X12_389_13 hs_a0 enu kd28_66.2.2.2.2.2.2.2.2.2.2.2 ?_
      refine X_icmp_ge hK 70 (by omega) (by omega) kd28_67.1 (by decide) (fun c68 => ?_) (fun c68 => ?_)
      · refine X_iloadn hK (i := 3) 1 kd28_69.2.2.2.2.2.2.1 rfl rfl ?_
        exact hret _ _ _ _ _ _ _ kd28_69.2.2.2.2.2.2.2.1 ⟨rfl, rfl, z50, rfl, (by omega), (by omega), (by rw [show nu = z49 by omega]; exact v66)⟩ (Nat.le_refl _) (Nat.le_refl _)
      · refine X_aloadn hK (i := 0) 2 kd28_67.2.1 rfl rfl ?_
        refine X_getK hK fl_X12_129_13 hs_a0 ewc kd28_67.2.2.1 ?_
        refine X_iload hK (i := 4) 0 kd28_67.2.2.2.1 rfl ?_
        refine X_zald hK hs_wc (by decide) sl_19501 (by omega) (by omega) kd28_67.2.2.2.2.1 (fun z69 ez69 lz69 uz69 => ?_)
        have hw70 : xv g wc z49 = z69 := xv_e (j := z49) ez69 (by omega)
        refine X_if_ne hK 64 (by omega) kd28_67.2.2.2.2.2.1 (by decide) (fun c71 => ?_) (fun c71 => ?_)
        · refine X_iinc hK (i := 4) (z := z49) (n := 1) 0 [(4, .int (iI (z49 + 1))), (3, .int (iI z50)), (0, .ref a0), (1, .int (iI x1)), (2, .int (iI x2))] kd28_69.2.2.2.2.1 rfl (by decide) rfl ?_
          refine X_goto hK 5 kd28_69.2.2.2.2.2.1 (by decide) ?_
          exact ihP65  (z49 + 1) (by omega) (by omega) z50 (by omega) (by omega) (xFs.skip v66 (fun q9 => by have h9 := q9.1; rw [hw70] at h9; omega)) (by omega) (by omega)
        · refine X_aloadn hK (i := 0) 2 kd28_67.2.2.2.2.2.2.1 rfl rfl ?_
          refine X_getK hK fl_X12_96_13 hs_a0 ewco kd28_67.2.2.2.2.2.2.2.1 ?_
          refine X_iload hK (i := 4) 0 kd28_67.2.2.2.2.2.2.2.2.1 rfl ?_
          refine X_iald hK hs_wco (by decide) sl_16600 (by omega) (by omega) kd28_67.2.2.2.2.2.2.2.2.2.1 (fun z72 ez72 lz72 uz72 => ?_)
          have hw73 : xv g wco z49 = z72 := xv_e (j := z49) ez72 (by omega)
          refine X_iloadn hK (i := 1) 3 kd28_67.2.2.2.2.2.2.2.2.2.2.1 rfl rfl ?_
          refine X_icmp_ne hK 64 (by omega) (by omega) kd28_67.2.2.2.2.2.2.2.2.2.2.2 (by decide) (fun c74 => ?_) (fun c74 => ?_)
          · refine X_iinc hK (i := 4) (z := z49) (n := 1) 0 [(4, .int (iI (z49 + 1))), (3, .int (iI z50)), (0, .ref a0), (1, .int (iI x1)), (2, .int (iI x2))] kd28_69.2.2.2.2.1 rfl (by decide) rfl ?_
            refine X_goto hK 5 kd28_69.2.2.2.2.2.1 (by decide) ?_
            exact ihP65  (z49 + 1) (by omega) (by omega) z50 (by omega) (by omega) (xFs.skip v66 (fun q9 => by have h9 := q9.2.1; rw [hw73] at h9; omega)) (by omega) (by omega)
          · refine X_aloadn hK (i := 0) 2 kd28_68.1 rfl rfl ?_
            refine X_getK hK fl_X12_93_13 hs_a0 ewpa kd28_68.2.1 ?_
            refine X_iload hK (i := 4) 0 kd28_68.2.2.1 rfl ?_
            refine X_iald hK hs_wpa (by decide) sl_16500 (by omega) (by omega) kd28_68.2.2.2.1 (fun z75 ez75 lz75 uz75 => ?_)
            have hw76 : xv g wpa z49 = z75 := xv_e (j := z49) ez75 (by omega)
            refine X_iloadn hK (i := 2) 4 kd28_68.2.2.2.2.1 rfl rfl ?_
            refine X_icmp_ne hK 64 (by omega) (by omega) kd28_68.2.2.2.2.2.1 (by decide) (fun c77 => ?_) (fun c77 => ?_)
            · refine X_iinc hK (i := 4) (z := z49) (n := 1) 0 [(4, .int (iI (z49 + 1))), (3, .int (iI z50)), (0, .ref a0), (1, .int (iI x1)), (2, .int (iI x2))] kd28_69.2.2.2.2.1 rfl (by decide) rfl ?_
              refine X_goto hK 5 kd28_69.2.2.2.2.2.1 (by decide) ?_
              exact ihP65  (z49 + 1) (by omega) (by omega) z50 (by omega) (by omega) (xFs.skip v66 (fun q9 => by have h9 := q9.2.2; rw [hw76] at h9; omega)) (by omega) (by omega)
            · refine X_iloadn hK (i := 3) 1 kd28_68.2.2.2.2.2.2.1 rfl rfl ?_
              refine X_iconst hK kd28_68.2.2.2.2.2.2.2.1 ?_
              refine X_icmp_eq hK 61 (by omega) (by omega) kd28_68.2.2.2.2.2.2.2.2.1 (by decide) (fun c78 => ?_) (fun c78 => ?_)
              · refine X_iload hK (i := 4) 0 kd28_69.2.2.1 rfl ?_
                refine X_istoren hK (i := 3) [(3, .int (iI z49)), (4, .int (iI z49)), (0, .ref a0), (1, .int (iI x1)), (2, .int (iI x2))] kd28_69.2.2.2.1 rfl (by decide) rfl ?_
                refine X_iinc hK (i := 4) (z := z49) (n := 1) 1 [(4, .int (iI (z49 + 1))), (3, .int (iI z49)), (0, .ref a0), (1, .int (iI x1)), (2, .int (iI x2))] kd28_69.2.2.2.2.1 rfl (by decide) rfl ?_
                refine X_goto hK 5 kd28_69.2.2.2.2.2.1 (by decide) ?_
                exact ihP65  (z49 + 1) (by omega) (by omega) z49 (by omega) (by omega) (xFs.take v66 (by omega) ⟨by rw [hw70]; omega, by rw [hw73]; omega, by rw [hw76]; omega⟩ (Or.inl (by omega))) (by omega) (by omega)
              · refine X_aloadn hK (i := 0) 2 kd28_68.2.2.2.2.2.2.2.2.2.1 rfl rfl ?_
                refine X_iload hK (i := 4) 0 kd28_68.2.2.2.2.2.2.2.2.2.2.1 rfl ?_
                refine X_iloadn hK (i := 3) 1 kd28_68.2.2.2.2.2.2.2.2.2.2.2 rfl rfl ?_
                refine X_callV hK [.int (iI z49), .int (iI z50)] [] lk_X12_408 (m_misAhead _ _ _ _ _ S g a0 z49 z50 wbo wpa wco who wow wfi hs_a0 (by omega) (by omega) ewbo hs_wbo ewpa hs_wpa ewco hs_wco ewho hs_who ewow hs_wow ewfi hs_wfi (by obtain ⟨h9, h8, h7, h6, h5⟩ := (v66).resolve_left (fun q9 => by omega); rw [hw73, hw76, h7, h6]; exact ⟨by omega, by omega⟩) ⟨hp0 z49 (by omega) (by omega), hp0 z50 (by omega) (by omega)⟩) hs_a0 ⟨by decide, rfl⟩ kd28_69.1 rfl rfl (by simp [Value.category]) (by decide) (by decide) (by decide) (by decide) (fun r79 S81 g80 pr79 qr79 hg80 => ?_)
                obtain ⟨rfl, rfl, z82, rfl, lz82, uz82, k83⟩ := pr79
                refine X_st [.int (iI z82)] rfl ?_
                refine X_if_eq hK 64 (by omega) kd28_69.2.1 (by decide) (fun c84 => ?_) (fun c84 => ?_)
                · refine X_iinc hK (i := 4) (z := z49) (n := 1) 0 [(4, .int (iI (z49 + 1))), (3, .int (iI z50)), (0, .ref a0), (1, .int (iI x1)), (2, .int (iI x2))] kd28_69.2.2.2.2.1 rfl (by decide) rfl ?_
                  refine X_goto hK 5 kd28_69.2.2.2.2.2.1 (by decide) ?_
                  exact ihP65  (z49 + 1) (by omega) (by omega) z50 (by omega) (by omega) (xFs.keep v66 (by omega) (by have h9 := k83; omega)) (by omega) (by omega)
                · refine X_iload hK (i := 4) 0 kd28_69.2.2.1 rfl ?_
                  refine X_istoren hK (i := 3) [(3, .int (iI z49)), (4, .int (iI z49)), (0, .ref a0), (1, .int (iI x1)), (2, .int (iI x2))] kd28_69.2.2.2.1 rfl (by decide) rfl ?_
                  refine X_iinc hK (i := 4) (z := z49) (n := 1) 1 [(4, .int (iI (z49 + 1))), (3, .int (iI z49)), (0, .ref a0), (1, .int (iI x1)), (2, .int (iI x2))] kd28_69.2.2.2.2.1 rfl (by decide) rfl ?_
                  refine X_goto hK 5 kd28_69.2.2.2.2.2.1 (by decide) ?_
                  exact ihP65  (z49 + 1) (by omega) (by omega) z49 (by omega) (by omega) (xFs.take v66 (by omega) ⟨by rw [hw70]; omega, by rw [hw73]; omega, by rw [hw76]; omega⟩ (Or.inr (k83.mp (by omega)))) (by omega) (by omega)
  exact P65 ((300 - 0 : Int).toNat + 1) 0 (by omega) (by omega) (-1) (by omega) (by omega) xFs.z (by omega) (by omega)
