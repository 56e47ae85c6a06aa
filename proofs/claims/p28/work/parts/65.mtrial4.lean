
def xins9 (q : Int → Int) (p i : Int) : Int → Int := fun j => if j < p then q j else if j = p then i else q (j - 1)
theorem xins9.lt {q : Int → Int} {p i j : Int} (h : j < p) : xins9 q p i j = q j := if_pos h
theorem xins9.eq {q : Int → Int} {p i : Int} : xins9 q p i p = i := by
  unfold xins9
  rw [if_neg (by omega), if_pos rfl]
theorem xins9.gt {q : Int → Int} {p i j : Int} (h : p < j) : xins9 q p i j = q (j - 1) := by
  unfold xins9
  rw [if_neg (by omega), if_neg (by omega)]
set_option maxHeartbeats 4000000 in
set_option maxRecDepth 100000 in
theorem m_lineUp (l : Launch) (D : va_G) (kA : Nat → ClassId) (b0 : Nat) (t0 : Nat → Nat) (S : xT) (g : xG) (a0 : Nat) (x1 : Int) (bn : Nat) (bo : Nat) (w3 : Nat) (ct : Nat) (ow : Nat) (nu : Int) (nb : Int) (c9 s9 : Nat) (U : Int → Nat) (B : Int → Nat) (Y : Nat → Int → Int) (YB : Nat → Int → Int) (hs_a0 : S a0 = some (6, 0)) (hx1 : 0 ≤ x1 ∧ x1 ≤ 399) (ebn : g a0 2 = .ref bn) (hs_bn : S bn = some (100, 0)) (ebo : g a0 1 = .ref bo) (hs_bo : S bo = some (0, 0)) (ew3 : g a0 3 = .ref w3) (hs_w3 : S w3 = some (200, 0)) (ect : g a0 0 = .ref ct) (hs_ct : S ct = some (4, 0)) (eow : g ct 5 = .ref ow) (hs_ow : S ow = some (11400, 10)) (hnu : 0 ≤ nu ∧ nu ≤ 200) (enu : g bn 2 = .int (iI nu)) (hnb : 0 ≤ nb ∧ nb ≤ 40) (enb : g bo 2 = .int (iI nb)) (hp0 : xLs S g) (hp1 : xSi S t0) (hp2 : xQk S g w3 c9 s9) (hp3 : xUW S g bn nu nb U B Y) (hp4 : xBW S g bo nb B YB) : xMu l yX5_lineUp cX5_lineUp 5 none 7 10 962 167 D kA b0 t0 [(200, 0), (200, 2), (10403, 0), (200, 1)] [.ref a0, .int (iI x1)] S g (fun (r : Option Value) (S1 : xT) (g1 : xG) (dc ds : Nat) => xNw2 S S1 [10403] ∧ r = none ∧ (xLs S1 g1) ∧ (xSi S1 t0) ∧ (xQk S1 g1 w3 (c9 + dc) (s9 + ds)) ∧ (c9 + dc ≤ 9 ∧ s9 + ds ≤ 718) ∧ (∃ (q9 : Int → Int) (m9 : Int), g1 w3 2 = .int (iI m9) ∧ (0 ≤ m9 ∧ m9 ≤ nu) ∧ xQs nu (Y 5) (xKY Y YB (xv g ow)) x1 q9 m9 ∧ xQW S1 g1 w3 m9 U q9)) := by
  refine xEnterUV (by decide) (by simp [lg_sl, Value.category]) [(0, .ref a0), (1, .int (iI x1))] rfl ?_
  intro K E hK hret hS0 _ hini ht
  subst ht
  refine X_aloadn hK (i := 0) 0 kd45_13.2.2.2.2.2.1 rfl rfl ?_
  refine X_getK hK fl_X5_28_6 hs_a0 ew3 kd45_13.2.2.2.2.2.2.1 ?_
  refine X_callV hK [] [] lk_X5_162 (c_clearW _ _ _ _ _ S g w3 c9 s9 hs_w3 hp0 hp2) hs_w3 ⟨by decide, rfl⟩ kd45_13.2.2.2.2.2.2.2.1 rfl rfl (by simp [Value.category]) (by decide) (by omega) (by omega) (by decide) (fun r1 S3 g2 pr1 qr1 hg2 => ?_)
  obtain ⟨rfl, rfl, k4, k5, k6⟩ := pr1
  refine X_st [] rfl ?_
  refine X_iconst hK kd45_13.2.2.2.2.2.2.2.2.1 ?_
  refine X_istoren hK (i := 2) [(2, .int (iI 0)), (0, .ref a0), (1, .int (iI x1))] kd45_13.2.2.2.2.2.2.2.2.2.1 rfl (by decide) rfl ?_
  have P1087 : ∀ (nP1087 : Nat) (S907 : xT) (_ : xLe S S907) (_ : xNw2 S S907 [10403]) (g909 : xG) (_ : xM [(200, 0), (200, 1), (200, 2), (10403, 0)] S g2 g909) (_ : xLs S907 g909) (dcS907 dsS907 : Nat) (_ : xQk S907 g909 w3 (c9 + dcS907) (s9 + dsS907)) (z908 : Int) (_ : 0 ≤ z908) (_ : z908 ≤ 200) (q910 : Int) (_ : 0 ≤ q910) (_ : q910 ≤ 2147483647) (_ : g909 w3 2 = .int (iI q910)) (_ : q910 ≤ z908 ∧ z908 ≤ nu) (_ : xUW S907 g909 bn nu nb U B Y) (_ : xBW S907 g909 bo nb B YB) (_ : ∃ q9 : Int → Int, xQs z908 (Y 5) (xKY Y YB (xv g ow)) x1 q9 q910 ∧ xQW S907 g909 w3 q910 U q9) (_ : 216 - z908 < (nP1087 : Int)), X K E 9 [(2, .int (iI z908)), (0, .ref a0), (1, .int (iI x1))] [] S907 g909 dcS907 dsS907 := by
    intro nP1087
    induction nP1087 with
    | zero => intro S907 qS907 wS907 g909 hg909 AS907 dcS907 dsS907 QS907 z908 lz908 uz908 q910 lq910 uq910 eq910 v1088 v1089 v1090 v1091 mP1087; exact False.elim (by omega)
    | succ nP1087 ihP1087 =>
      intro S907 qS907 wS907 g909 hg909 AS907 dcS907 dsS907 QS907 z908 lz908 uz908 q910 lq910 uq910 eq910 v1088 v1089 v1090 v1091 mP1087
      have qlS907 := xQk.le QS907
      refine X_iloadn hK (i := 2) 0 kd45_13.2.2.2.2.2.2.2.2.2.2.1 rfl rfl ?_
      obtain ⟨q1092, h1q1092, h2q1092⟩ := id v1091
      refine X_aloadn hK (i := 0) 1 kd45_13.2.2.2.2.2.2.2.2.2.2.2 rfl rfl ?_
      refine X_getK hK fl_X5_25_6 (qS907 _ _ hs_a0) ((hg909 a0 6 0 2 hs_a0 (by decide)).trans ((hg2 a0 6 0 2 hs_a0 (by decide)).trans ebn)) kd45_14.1 ?_
      refine X_callV hK [] [.int (iI z908)] lk_X5_45 (c_size_100 _ _ _ _ _ S907 g909 bn nu (qS907 _ _ hs_bn) (by omega) ((hg909 bn 100 0 2 hs_bn (by decide)).trans ((hg2 bn 100 0 2 hs_bn (by decide)).trans enu)) AS907) (qS907 _ _ hs_bn) ⟨by decide, rfl⟩ kd45_14.2.1 rfl rfl (by simp [Value.category]) (by decide) (by omega) (by omega) (by decide) (fun r1093 S1095 g1094 pr1093 qr1093 hg1094 => ?_)
      obtain ⟨rfl, rfl, z1096, rfl, lz1096, uz1096, k1097⟩ := pr1093
      refine X_st [.int (iI z1096), .int (iI z908)] rfl ?_
      refine X_icmp_ge hK 98 (by omega) (by omega) kd45_14.2.2.1 (by decide) (fun c1098 => ?_) (fun c1098 => ?_)
      · exact hret _ _ _ _ _ _ kd45_17.2.2.2 ⟨(xNw2.tr xNw2.rf wS907 (by decide)), rfl, AS907, (xSi.nw hp1 wS907 (by decide)), (xQk.cg QS907 (by omega) (by omega)), (xQk.le (xQk.cg QS907 (by omega) (by omega))), (by obtain ⟨q9, h1, h2⟩ := v1091; exact ⟨q9, q910, eq910, by omega, by rw [show nu = z908 by omega]; exact h1, h2⟩)⟩ (by omega) (by omega)
      · refine X_aloadn hK (i := 0) 1 kd45_14.2.2.2.1 rfl rfl ?_
        refine X_getK hK fl_X5_25_6 (qS907 _ _ hs_a0) ((hg909 a0 6 0 2 hs_a0 (by decide)).trans ((hg2 a0 6 0 2 hs_a0 (by decide)).trans ebn)) kd45_14.2.2.2.2.1 ?_
        refine X_iloadn hK (i := 2) 0 kd45_14.2.2.2.2.2.1 rfl rfl ?_
        refine X_callV hK [.int (iI z908)] [] lk_X5_119 (c_get_100 _ _ _ _ _ S907 g909 bn z908 nu (qS907 _ _ hs_bn) (by omega) (by omega) ((hg909 bn 100 0 2 hs_bn (by decide)).trans ((hg2 bn 100 0 2 hs_bn (by decide)).trans enu)) AS907 (by omega)) (qS907 _ _ hs_bn) ⟨by decide, rfl⟩ kd45_14.2.2.2.2.2.2.1 rfl rfl (by simp [Value.category]) (by decide) (by omega) (by omega) (by decide) (fun r1099 S1101 g1100 pr1099 qr1099 hg1100 => ?_)
        obtain ⟨rfl, rfl, b1102, rfl, hs_b1102, k1103⟩ := pr1099
        refine X_st [.ref b1102] rfl ?_
        have he1104 : b1102 = U z908 := k1103.trans (v1089.2.1 z908 (by omega) (by omega)).1
        have hbd1105 := v1089.2.1 z908 (by omega) (by omega)
        obtain ⟨abd1105, sbd1105, ybd1105, zbd1105, fbd1105, rbd1105⟩ := hbd1105
        unfold xUr at rbd1105
        have kbd1105 := v1090.2 (Y 0 z908) (by omega) (by omega)
        obtain ⟨kabd1105, ksbd1105, kfbd1105, krbd1105⟩ := kbd1105
        unfold xBr at krbd1105
        refine X_cast hK hs_b1102 ⟨by decide, rfl⟩ m_38_23 kd45_14.2.2.2.2.2.2.2.1 ?_
        refine X_astoren hK (i := 3) [(3, .ref b1102), (2, .int (iI z908)), (0, .ref a0), (1, .int (iI x1))] kd45_14.2.2.2.2.2.2.2.2.1 rfl (by decide) rfl ?_
        refine X_aloadn hK (i := 3) 0 kd45_14.2.2.2.2.2.2.2.2.2.1 rfl rfl ?_
        refine X_getK hK fl_X5_61_2 hs_b1102 (show g909 b1102 5 = .int (iI (Y 5 z908)) from by have h9 := (fbd1105 5 (by decide) (by decide)).1; rw [he1104]; exact h9) kd45_14.2.2.2.2.2.2.2.2.2.2.1 ?_
        refine X_iloadn hK (i := 1) 3 kd45_14.2.2.2.2.2.2.2.2.2.2.2 rfl rfl ?_
        refine X_icmp_ne hK 92 (by omega) (by omega) kd45_15.1 (by decide) (fun c1106 => ?_) (fun c1106 => ?_)
        · refine X_iinc hK (i := 2) (z := z908) (n := 1) 1 [(2, .int (iI (z908 + 1))), (3, .ref b1102), (0, .ref a0), (1, .int (iI x1))] kd45_17.2.1 rfl (by decide) rfl ?_
          refine X_goto hK 9 kd45_17.2.2.1 (by decide) ?_
          refine X_lv [(2, .int (iI (z908 + 1))), (0, .ref a0), (1, .int (iI x1))] [0, 2, 3] rfl ?_
          exact ihP1087  S907 qS907 (xNw2.tr xNw2.rf wS907 (by decide)) g909 (xM.tr xM.rf xLe.rf hg909 (by decide)) AS907 dcS907 dsS907 (xQk.cg QS907 (by omega) (by omega)) (z908 + 1) (by omega) (by omega) q910 (by omega) (by omega) eq910 (by omega) v1089 v1090 ⟨q1092, xQs.skip h1q1092 (by omega), h2q1092⟩ (by omega)
        · refine X_aloadn hK (i := 0) 2 kd45_15.2.1 rfl rfl ?_
          refine X_getK hK fl_X5_28_6 (qS907 _ _ hs_a0) ((hg909 a0 6 0 3 hs_a0 (by decide)).trans ((hg2 a0 6 0 3 hs_a0 (by decide)).trans ew3)) kd45_15.2.2.1 ?_
          refine X_callV hK [] [] lk_X5_45 (c_size_200 _ _ _ _ _ S907 g909 w3 q910 (qS907 _ _ hs_w3) (by omega) eq910 AS907) (qS907 _ _ hs_w3) ⟨by decide, rfl⟩ kd45_15.2.2.2.1 rfl rfl (by simp [Value.category]) (by decide) (by omega) (by omega) (by decide) (fun r1107 S1109 g1108 pr1107 qr1107 hg1108 => ?_)
          obtain ⟨rfl, rfl, z1110, rfl, lz1110, uz1110, k1111⟩ := pr1107
          refine X_st [.int (iI z1110)] rfl ?_
          refine X_istore hK (i := 4) [(4, .int (iI z1110)), (3, .ref b1102), (2, .int (iI z908)), (0, .ref a0), (1, .int (iI x1))] kd45_15.2.2.2.2.1 (by decide) rfl ?_
          have P1236 : ∀ (nP1236 : Nat) (z1205 : Int) (_ : 0 ≤ z1205) (_ : z1205 ≤ 200) (_ : z1205 ≤ q910) (_ : ∀ i9 : Int, z1205 ≤ i9 → i9 < q910 → (xKY Y YB (xv g ow)) z908 < (xKY Y YB (xv g ow)) (q1092 i9)) (_ : z1205 < (nP1236 : Int)), X K E 49 [(4, .int (iI z1205)), (3, .ref b1102), (2, .int (iI z908)), (0, .ref a0), (1, .int (iI x1))] [] S907 g909 dcS907 dsS907 := by
            intro nP1236
            induction nP1236 with
            | zero => intro z1205 lz1205 uz1205 v1237 v1238 mP1236; exact False.elim (by omega)
            | succ nP1236 ihP1236 =>
              intro z1205 lz1205 uz1205 v1237 v1238 mP1236
              refine X_iload hK (i := 4) 0 kd45_15.2.2.2.2.2.1 rfl ?_
              refine X_if_le hK 82 (by omega) kd45_15.2.2.2.2.2.2.1 (by decide) (fun c1239 => ?_) (fun c1239 => ?_)
              · refine X_aloadn hK (i := 0) 3 kd45_16.2.2.2.2.2.2.2.2.1 rfl rfl ?_
                refine X_getK hK fl_X5_28_6 (qS907 _ _ hs_a0) ((hg909 a0 6 0 3 hs_a0 (by decide)).trans ((hg2 a0 6 0 3 hs_a0 (by decide)).trans ew3)) kd45_16.2.2.2.2.2.2.2.2.2.1 ?_
                refine X_iload hK (i := 4) 0 kd45_16.2.2.2.2.2.2.2.2.2.2.1 rfl ?_
                refine X_aloadn hK (i := 3) 1 kd45_16.2.2.2.2.2.2.2.2.2.2.2 rfl rfl ?_
                refine X_callVU hK [.int (iI z1205), .ref b1102] [] lk_X5_169 (c_addQ _ _ _ _ _ S907 g909 w3 z1205 b1102 q910 (c9 + dcS907) (s9 + dsS907) (qS907 _ _ hs_w3) (by omega) hs_b1102 (by omega) eq910 AS907 (xSi.nw hp1 wS907 (by decide)) QS907 (by omega)) (qS907 _ _ hs_w3) ⟨by decide, rfl⟩ kd45_17.1 rfl rfl (by simp [Value.category]) (by decide) (by omega) (by omega) (by decide) (fun r1240 S1242 g1241 dcr1240 dsr1240 pr1240 qr1240 hg1241 => ?_)
                obtain ⟨wr1240, rfl, k1243, k1244, k1245, k1246, k1247⟩ := pr1240
                refine X_st [] rfl ?_
                refine X_iinc hK (i := 2) (z := z908) (n := 1) 2 [(2, .int (iI (z908 + 1))), (4, .int (iI z1205)), (3, .ref b1102), (0, .ref a0), (1, .int (iI x1))] kd45_17.2.1 rfl (by decide) rfl ?_
                refine X_goto hK 9 kd45_17.2.2.1 (by decide) ?_
                refine X_lv [(2, .int (iI (z908 + 1))), (0, .ref a0), (1, .int (iI x1))] [0, 3, 4] rfl ?_
                exact ihP1087  S1242 (xLe.tr qS907 qr1240) (xNw2.tr (xNw2.tr xNw2.rf wS907 (by decide)) wr1240 (by decide)) g1241 (xM.tr (xM.tr xM.rf xLe.rf hg909 (by decide)) qS907 hg1241 (by decide)) k1243 (dcS907 + dcr1240) (dsS907 + dsr1240) (xQk.cg k1244 (by omega) (by omega)) (z908 + 1) (by omega) (by omega) (q910 + 1) (by omega) (by omega) k1245 (by omega) (xUW.m v1089 hg1241 qr1240 (by decide)) (xBW.m v1090 hg1241 qr1240 (by decide)) ⟨(xins9 q1092 z1205 z908), xQs.ins h1q1092 (by omega) ⟨by omega, by omega⟩ (Or.inl (by omega)) v1238 (fun i9 r1 r2 => xins9.lt r2) xins9.eq (fun i9 r1 r2 => xins9.gt r1), (xLv.of (qr1240 _ _ (qS907 _ _ hs_w3)) ((xLs_200 k1243).2 w3 0 (qr1240 _ _ (qS907 _ _ hs_w3))) k1245 (by omega)), fun i9 r1 r2 => by rcases (show i9 < z1205 ∨ i9 = z1205 ∨ z1205 < i9 by omega) with c9 | c9 | c9; (rw [k1247.1 i9 r1 c9, xins9.lt c9]; exact h2q1092.2 i9 r1 (by omega)); (rw [c9, k1247.2.1, xins9.eq]; exact he1104); (rw [k1247.2.2 i9 c9 (by omega), xins9.gt c9]; exact h2q1092.2 (i9 - 1) (by omega) (by omega))⟩ (by omega)
              · refine X_aloadn hK (i := 0) 3 kd45_15.2.2.2.2.2.2.2.1 rfl rfl ?_
                refine X_aloadn hK (i := 3) 1 kd45_15.2.2.2.2.2.2.2.2.1 rfl rfl ?_
                refine X_aloadn hK (i := 0) 3 kd45_15.2.2.2.2.2.2.2.2.2.1 rfl rfl ?_
                refine X_getK hK fl_X5_28_6 (qS907 _ _ hs_a0) ((hg909 a0 6 0 3 hs_a0 (by decide)).trans ((hg2 a0 6 0 3 hs_a0 (by decide)).trans ew3)) kd45_15.2.2.2.2.2.2.2.2.2.2.1 ?_
                refine X_iload hK (i := 4) 0 kd45_15.2.2.2.2.2.2.2.2.2.2.2 rfl ?_
                refine X_iconst hK kd45_16.1 ?_
                refine X_isub hK kd45_16.2.1 ?_
                refine X_callV hK [.int (iI (z1205 - 1))] [.ref b1102, .ref a0] lk_X5_119 (c_get_200 _ _ _ _ _ S907 g909 w3 (z1205 - 1) q910 (qS907 _ _ hs_w3) (by omega) (by omega) eq910 AS907 (by omega)) (qS907 _ _ hs_w3) ⟨by decide, rfl⟩ kd45_16.2.2.1 rfl rfl (by simp [Value.category]) (by decide) (by omega) (by omega) (by decide) (fun r1248 S1250 g1249 pr1248 qr1248 hg1249 => ?_)
                obtain ⟨rfl, rfl, b1251, rfl, hs_b1251, k1252⟩ := pr1248
                refine X_st [.ref b1251, .ref b1102, .ref a0] rfl ?_
                have rhe1253 := h1q1092.1 (z1205 - 1) (by omega) (by omega)
                have he1253 : b1251 = U (q1092 (z1205 - 1)) := k1252.trans (h2q1092.2 (z1205 - 1) (by omega) (by omega))
                have hbd1254 := v1089.2.1 (q1092 (z1205 - 1)) (by omega) (by omega)
                obtain ⟨abd1254, sbd1254, ybd1254, zbd1254, fbd1254, rbd1254⟩ := hbd1254
                unfold xUr at rbd1254
                have kbd1254 := v1090.2 (Y 0 (q1092 (z1205 - 1))) (by omega) (by omega)
                obtain ⟨kabd1254, ksbd1254, kfbd1254, krbd1254⟩ := kbd1254
                unfold xBr at krbd1254
                refine X_cast hK hs_b1251 ⟨by decide, rfl⟩ m_38_23 kd45_16.2.2.2.1 ?_
                refine X_callV hK [.ref b1102, .ref b1251] [] lk_X5_165 (m_isAhead _ _ _ _ _ S907 g909 a0 b1102 b1251 ct ow (B (Y 0 z908)) (Y 0 z908) (YB 3 (Y 0 z908)) (Y 1 z908) (Y 2 z908) (Y 4 z908) (B (Y 0 (q1092 (z1205 - 1)))) (Y 0 (q1092 (z1205 - 1))) (YB 3 (Y 0 (q1092 (z1205 - 1)))) (Y 1 (q1092 (z1205 - 1))) (Y 2 (q1092 (z1205 - 1))) (Y 4 (q1092 (z1205 - 1))) (qS907 _ _ hs_a0) hs_b1102 hs_b1251 ((hg909 a0 6 0 0 hs_a0 (by decide)).trans ((hg2 a0 6 0 0 hs_a0 (by decide)).trans ect)) (qS907 _ _ hs_ct) ((hg909 ct 4 0 5 hs_ct (by decide)).trans ((hg2 ct 4 0 5 hs_ct (by decide)).trans eow)) (qS907 _ _ hs_ow) (show g909 b1102 0 = .ref (B (Y 0 z908)) from by rw [he1104]; exact ybd1105) ksbd1105 (by omega) (show g909 (B (Y 0 z908)) 0 = .int (iI (Y 0 z908)) from by have h9 := kfbd1105 0 (by decide); rw [krbd1105.1] at h9; exact h9) (by omega) (show g909 (B (Y 0 z908)) 3 = .int (iI (YB 3 (Y 0 z908))) from by have h9 := kfbd1105 3 (by decide); exact h9) (by omega) (show g909 b1102 1 = .int (iI (Y 1 z908)) from by have h9 := (fbd1105 1 (by decide) (by decide)).1; rw [he1104]; exact h9) (by omega) (show g909 b1102 2 = .int (iI (Y 2 z908)) from by have h9 := (fbd1105 2 (by decide) (by decide)).1; rw [he1104]; exact h9) (by omega) (show g909 b1102 4 = .int (iI (Y 4 z908)) from by have h9 := (fbd1105 4 (by decide) (by decide)).1; rw [he1104]; exact h9) (show g909 b1251 0 = .ref (B (Y 0 (q1092 (z1205 - 1)))) from by rw [he1253]; exact ybd1254) ksbd1254 (by omega) (show g909 (B (Y 0 (q1092 (z1205 - 1)))) 0 = .int (iI (Y 0 (q1092 (z1205 - 1)))) from by have h9 := kfbd1254 0 (by decide); rw [krbd1254.1] at h9; exact h9) (by omega) (show g909 (B (Y 0 (q1092 (z1205 - 1)))) 3 = .int (iI (YB 3 (Y 0 (q1092 (z1205 - 1))))) from by have h9 := kfbd1254 3 (by decide); exact h9) (by omega) (show g909 b1251 1 = .int (iI (Y 1 (q1092 (z1205 - 1)))) from by have h9 := (fbd1254 1 (by decide) (by decide)).1; rw [he1253]; exact h9) (by omega) (show g909 b1251 2 = .int (iI (Y 2 (q1092 (z1205 - 1)))) from by have h9 := (fbd1254 2 (by decide) (by decide)).1; rw [he1253]; exact h9) (by omega) (show g909 b1251 4 = .int (iI (Y 4 (q1092 (z1205 - 1)))) from by have h9 := (fbd1254 4 (by decide) (by decide)).1; rw [he1253]; exact h9)) (qS907 _ _ hs_a0) ⟨by decide, rfl⟩ kd45_16.2.2.2.2.1 rfl rfl (by simp [Value.category]) (by decide) (by omega) (by omega) (by decide) (fun r1255 S1257 g1256 pr1255 qr1255 hg1256 => ?_)
                obtain ⟨rfl, rfl, z1258, rfl, lz1258, uz1258, k1259⟩ := pr1255
                refine X_st [.int (iI z1258)] rfl ?_
                have ah1260 : z1258 = 1 ↔ (xKY Y YB (xv g ow)) z908 < (xKY Y YB (xv g ow)) (q1092 (z1205 - 1)) := by have h9 := k1259; rw [(Eq.trans (xv_m hg909 hs_ow (by decide) (by decide)) (xv_m hg2 hs_ow (by decide) (by decide)))] at h9; exact h9.trans (xKY.lt (by omega) (by omega) (by omega))
                clear k1259
                have nah1260 := xKY.ne (Y := Y) (YB := YB) (ow := xv g ow) (i := z908) (j := (q1092 (z1205 - 1))) (by omega) (by omega) (by omega)
                refine X_if_eq hK 82 (by omega) kd45_16.2.2.2.2.2.1 (by decide) (fun c1261 => ?_) (fun c1261 => ?_)
                · refine X_aloadn hK (i := 0) 3 kd45_16.2.2.2.2.2.2.2.2.1 rfl rfl ?_
                  refine X_getK hK fl_X5_28_6 (qS907 _ _ hs_a0) ((hg909 a0 6 0 3 hs_a0 (by decide)).trans ((hg2 a0 6 0 3 hs_a0 (by decide)).trans ew3)) kd45_16.2.2.2.2.2.2.2.2.2.1 ?_
                  refine X_iload hK (i := 4) 0 kd45_16.2.2.2.2.2.2.2.2.2.2.1 rfl ?_
                  refine X_aloadn hK (i := 3) 1 kd45_16.2.2.2.2.2.2.2.2.2.2.2 rfl rfl ?_
                  refine X_callVU hK [.int (iI z1205), .ref b1102] [] lk_X5_169 (c_addQ _ _ _ _ _ S907 g909 w3 z1205 b1102 q910 (c9 + dcS907) (s9 + dsS907) (qS907 _ _ hs_w3) (by omega) hs_b1102 (by omega) eq910 AS907 (xSi.nw hp1 wS907 (by decide)) QS907 (by omega)) (qS907 _ _ hs_w3) ⟨by decide, rfl⟩ kd45_17.1 rfl rfl (by simp [Value.category]) (by decide) (by omega) (by omega) (by decide) (fun r1262 S1264 g1263 dcr1262 dsr1262 pr1262 qr1262 hg1263 => ?_)
                  obtain ⟨wr1262, rfl, k1265, k1266, k1267, k1268, k1269⟩ := pr1262
                  refine X_st [] rfl ?_
                  refine X_iinc hK (i := 2) (z := z908) (n := 1) 2 [(2, .int (iI (z908 + 1))), (4, .int (iI z1205)), (3, .ref b1102), (0, .ref a0), (1, .int (iI x1))] kd45_17.2.1 rfl (by decide) rfl ?_
                  refine X_goto hK 9 kd45_17.2.2.1 (by decide) ?_
                  refine X_lv [(2, .int (iI (z908 + 1))), (0, .ref a0), (1, .int (iI x1))] [0, 3, 4] rfl ?_
                  exact ihP1087  S1264 (xLe.tr qS907 qr1262) (xNw2.tr (xNw2.tr xNw2.rf wS907 (by decide)) wr1262 (by decide)) g1263 (xM.tr (xM.tr xM.rf xLe.rf hg909 (by decide)) qS907 hg1263 (by decide)) k1265 (dcS907 + dcr1262) (dsS907 + dsr1262) (xQk.cg k1266 (by omega) (by omega)) (z908 + 1) (by omega) (by omega) (q910 + 1) (by omega) (by omega) k1267 (by omega) (xUW.m v1089 hg1263 qr1262 (by decide)) (xBW.m v1090 hg1263 qr1262 (by decide)) ⟨(xins9 q1092 z1205 z908), xQs.ins h1q1092 (by omega) ⟨by omega, by omega⟩ (Or.inr (by have h8 := ah1260; have h7 := nah1260; omega)) v1238 (fun i9 r1 r2 => xins9.lt r2) xins9.eq (fun i9 r1 r2 => xins9.gt r1), (xLv.of (qr1262 _ _ (qS907 _ _ hs_w3)) ((xLs_200 k1265).2 w3 0 (qr1262 _ _ (qS907 _ _ hs_w3))) k1267 (by omega)), fun i9 r1 r2 => by rcases (show i9 < z1205 ∨ i9 = z1205 ∨ z1205 < i9 by omega) with c9 | c9 | c9; (rw [k1269.1 i9 r1 c9, xins9.lt c9]; exact h2q1092.2 i9 r1 (by omega)); (rw [c9, k1269.2.1, xins9.eq]; exact he1104); (rw [k1269.2.2 i9 c9 (by omega), xins9.gt c9]; exact h2q1092.2 (i9 - 1) (by omega) (by omega))⟩ (by omega)
                · refine X_iinc hK (i := 4) (z := z1205) (n := (-1)) 0 [(4, .int (iI (z1205 + (-1)))), (3, .ref b1102), (2, .int (iI z908)), (0, .ref a0), (1, .int (iI x1))] kd45_16.2.2.2.2.2.2.1 rfl (by decide) rfl ?_
                  refine X_goto hK 49 kd45_16.2.2.2.2.2.2.2.1 (by decide) ?_
                  exact ihP1236  (z1205 + (-1)) (by omega) (by omega) (by omega) (fun i9 r1 r2 => by rcases (show i9 = z1205 - 1 ∨ z1205 ≤ i9 by omega) with c9 | c9; (rw [c9]; exact ah1260.mp (by omega)); exact v1238 i9 c9 r2) (by omega)
          exact P1236 ((z1110 : Int).toNat + 1) z1110 (by omega) (by omega) (by omega) (fun i9 r1 r2 => by omega) (by omega)
  exact P1087 ((216 - 0 : Int).toNat + 1) S xLe.rf xNw2.rf g2 xM.rf k4 0 0 (xQk.cg k5 (by omega) (by omega)) 0 (by omega) (by omega) 0 (by omega) (by omega) k6 (by omega) (xUW.m hp3 hg2 xLe.rf (by decide)) (xBW.m hp4 hg2 xLe.rf (by decide)) ⟨fun _ => 0, xQs.zero, xLv.of hs_w3 ((xLs_200 k4).2 w3 0 hs_w3) k6 (by omega), fun i9 r1 r2 => by omega⟩ (by omega)
