theorem m_41_15 : Cond.classLink RL 13 "java/util/NoSuchElementException" ∈ wsL_law := ch_41 _ (List.mem_of_getElem? (i := 15) rfl)
theorem m_41_16 : Cond.methodLink RL 7 yX11_of ∈ wsL_law := ch_41 _ (List.mem_of_getElem? (i := 16) rfl)
theorem m_41_17 : Cond.instanceMethod yX11_of ∈ wsL_law := ch_41 _ (List.mem_of_getElem? (i := 17) rfl)
theorem m_41_18 : Cond.selects RX11 yX11_of yX11_of ∈ wsL_law := ch_41 _ (List.mem_of_getElem? (i := 18) rfl)
theorem m_41_19 : Cond.code yX11_of cX11_of 4 (some .int) ∈ wsL_law := ch_41 _ (List.mem_of_getElem? (i := 19) rfl)
theorem m_42_13 : Cond.methodLink RL 15 yX11_coin ∈ wsL_law := ch_42 _ (List.mem_of_getElem? (i := 13) rfl)
theorem m_42_14 : Cond.instanceMethod yX11_coin ∈ wsL_law := ch_42 _ (List.mem_of_getElem? (i := 14) rfl)
theorem m_42_15 : Cond.selects RX11 yX11_coin yX11_coin ∈ wsL_law := ch_42 _ (List.mem_of_getElem? (i := 15) rfl)
theorem m_42_16 : Cond.code yX11_coin cX11_coin 2 (some .int) ∈ wsL_law := ch_42 _ (List.mem_of_getElem? (i := 16) rfl)
theorem kd52_0 : (decode cL_coin 0 = .ok (.aload_n 2, 1)) ∧ (decode cL_coin 1 = .ok (.iconst 0, 1)) ∧ (decode cL_coin 2 = .ok (.aload_n 0, 1)) ∧ (decode cL_coin 3 = .ok (.iload_n 1, 1)) ∧ (decode cL_coin 4 = .ok (.invokevirtual 15, 3)) ∧ (decode cL_coin 7 = .ok (.i2l, 1)) ∧ (decode cL_coin 8 = .ok (.lastore, 1)) ∧ (decode cL_coin 9 = .ok (.goto 6, 3)) ∧ (decode cL_coin 12 = .ok (.astore_n 3, 1)) ∧ (decode cL_coin 13 = .ok (.iconst 1, 1)) ∧ (decode cL_coin 14 = .ok (.ireturn, 1)) ∧ (decode cL_coin 15 = .ok (.iconst 0, 1)) := by decide +kernel
theorem kd52_1 : (decode cL_coin 16 = .ok (.ireturn, 1)) ∧ (decode cL_of 0 = .ok (.aload_n 3, 1)) ∧ (decode cL_of 1 = .ok (.iconst 0, 1)) ∧ (decode cL_of 2 = .ok (.aload_n 0, 1)) ∧ (decode cL_of 3 = .ok (.iload_n 1, 1)) ∧ (decode cL_of 4 = .ok (.iload_n 2, 1)) ∧ (decode cL_of 5 = .ok (.invokevirtual 7, 3)) ∧ (decode cL_of 8 = .ok (.i2l, 1)) ∧ (decode cL_of 9 = .ok (.lastore, 1)) ∧ (decode cL_of 10 = .ok (.goto 7, 3)) ∧ (decode cL_of 13 = .ok (.astore 4, 2)) ∧ (decode cL_of 15 = .ok (.iconst 1, 1)) := by decide +kernel
theorem kd52_2 : (decode cL_of 16 = .ok (.ireturn, 1)) ∧ (decode cL_of 17 = .ok (.iconst 0, 1)) ∧ (decode cL_of 18 = .ok (.ireturn, 1)) := by decide +kernel
theorem lk_L_15 : xLV RL 15 yX11_coin cX11_coin 2 (some .int) 1 := ⟨m_42_13, m_42_14, m_42_15, m_1_2, m_42_16, by decide +kernel⟩
theorem lk_L_7 : xLV RL 7 yX11_of cX11_of 4 (some .int) 2 := ⟨m_41_16, m_41_17, m_41_18, m_1_2, m_41_19, by decide +kernel⟩
section XCW
variable {K : xCx} {E : xEn} {own : String} {cc : ByteArray} {Lw : List (Nat × Nat)} {nL rf rc rs rl : Nat} {pc : Nat} {lv : List (Nat × Value)} {st : List Value} {S : xT} {g : xG} {cells slots : Nat}
theorem X_callSW (hK : xK K E own cc Lw nL rf rc rs rl) {Ts : List Cond} (hts : ∀ w ∈ Ts, w.before K.2.2.2.2.2.2.1 K.2.2.2.2.1 = true) (hT : tsr (fun q => E.2.2.1 ≤ q) K.2.2.2.2.1 K.2.2.2.2.1.heap) (hp3 : xP3 K.2.2.2.2.1) {L1 : List (Nat × Nat)} {post : Option Value → xT → xG → Prop} {idx mx rf1 rl1 n : Nat} {y : MethodName} {cy : ByteArray} {hh : List (Nat × Nat × Nat × Nat)} (As rest : List Value) (hgo : GoodIn Ts (va_wsS own idx y (Cond.codeWith y cy mx (some .int) hh :: wsY))) (hy : y.cls ≠ "java/lang/invoke/MethodHandle" ∧ y.cls ≠ "java/lang/invoke/VarHandle" ∧ (parseMethodDescriptor y.desc).map (fun d => d.parameters.length) = some n)
    (hM : Met K.2.1 y (Cond.codeWith y cy mx (some .int) hh :: wsY) ({ frames := rf1, cells := 1, slots := 6, locals := rl1 }) (va_Pc As (fun U => xPx E.1 E.2.1 E.2.2.1 E.2.2.2.2.2.2.2 S g U)) (xQc E.1 E.2.1 E.2.2.1 L1 S g post) 1 6 (fun q => E.2.2.1 ≤ q)) (hd : decode cc pc = .ok (.invokestatic idx, 3)) (hst : st = As.reverse ++ rest) (hn : As.length = n) (hc : (rest.map fun v => v.category).sum ≤ 8) (hrm : rf1 + 1 ≤ rf ∧ 8 + (mx + 11) + rl1 ≤ rl) (hrc : cells + 1 ≤ rc) (hrs : slots + 6 ≤ rs) (hL : ∀ q ∈ L1, q ∈ Lw)
    (kk : ∀ (r : Option Value) (S1 : xT) (g1 : xG), post r S1 g1 → xLe S S1 → xM L1 S g g1 → X K E (pc + 3) lv (r.toList ++ rest) S1 g1 (cells + 1) (slots + 6)) : X K E pc lv st S g cells slots := by
  subst hst
  refine xCall hK (As := As) (a := As.toArray) (mc := 1) (ms := 6) (rest := rest) ?_ hL kk
  intro H locs ls h1 h2 h5 h6
  exact vx_runSW (As := As) (rest := rest) ⟨hK.1, hK.2.1, hK.2.2.1.trans (hK.2.2.2.2.2.2.2.2.2.2.2.2.2.1).symm, hK.2.2.2.1, hts⟩ hM (vx_cwSW n hts hgo rfl rfl rfl hy ⟨by rw [hK.2.2.2.2.2.2.2.2.2.1]; exact hrm.1, by rw [hK.2.2.2.2.2.2.2.2.2.2.2.2.1]; exact hrm.2⟩) ⟨xPx.blind, fun U hU hW => ⟨rfl, xPxOf hK hT hp3 h1 h2 h5 U hU hW⟩⟩ rfl hn h6.1 rfl (lv_room hc) hd ⟨by rw [hK.2.2.2.2.2.2.2.2.2.2.1]; exact hrc, by rw [hK.2.2.2.2.2.2.2.2.2.2.2.1]; exact hrs⟩
end XCW
set_option maxHeartbeats 4000000 in
set_option maxRecDepth 100000 in
theorem cw_L_of (l : Launch) (hst : l.stackTraces = false) (D : va_G) (kA : Nat → ClassId) (b0 : Nat) (t0 : Nat → Nat) (S : xT) (g : xG) (a o : Nat) (x0 : Int) (x1 : Int) (hs_a : S a = some (12, 0)) (hs_o : S o = some (12802, 1)) (hx0 : -2147483648 ≤ x0 ∧ x0 ≤ 2147483647) (hx1 : -2147483648 ≤ x1 ∧ x1 ≤ 2147483647) (hal : xLs S g) : Met l yL_of (Cond.codeWith yL_of cL_of 5 (some .int) [(0, 10, 13, 13)] :: wsY) ({ frames := 7, cells := 1, slots := 6, locals := 105 }) (va_Pc [.ref a, .int (iI x0), .int (iI x1), .ref o] (fun U => xPx D kA b0 t0 S g U)) (xQc D kA b0 [(12802, 0)] S g (fun (r : Option Value) (S1 : xT) (g1 : xG) => S = S1 ∧ ∃ z : Int, r = some (.int (iI z)))) 1 6 (fun q => b0 ≤ q) := by
  refine va_MetW (cc := cL_of) (maxL := 5) (ret := (some .int)) (hh := [(0, 10, 13, 13)]) (by decide) rfl ?_
  intro p e s m args below meth c s₁ B hml hv
  obtain ⟨rfl, ⟨hR1, hW1, hVK, hb0, hns, hal2⟩, hT, h271⟩ := hv
  have hr := B.returns
  have hts := atoms_spec (ws := Cond.codeWith yL_of cL_of 5 (some .int) [(0, 10, 13, 13)] :: wsY) B.pre
  have hwx : ∀ w ∈ wsY, w.before _ s = true := fun w h => hts w (List.mem_cons_of_mem _ h)
  have hws : ∀ w ∈ wsL_law, w.before _ s = true := fun w h => hwx w (List.mem_append_left _ h)
  have htab := vx_table (x := yL_of) B (hts _ List.mem_cons_self)
  have hK : xK (p, l, e, (headSpec (Cond.codeWith yL_of cL_of 5 (some .int) [(0, 10, 13, 13)] :: wsY) ({ frames := 7, cells := 1, slots := 6, locals := 105 })).room, s, m, ([.ref a, .int (iI x0), .int (iI x1), .ref o] : List Value).toArray, below, meth, c, MQ below (xQc D kA b0 [(12802, 0)] S g (fun (r : Option Value) (S1 : xT) (g1 : xG) => S = S1 ∧ ∃ z : Int, r = some (.int (iI z)))) ([.ref a, .int (iI x0), .int (iI x1), .ref o] : List Value).toArray s 1 6 (fun q => b0 ≤ q)) (D, kA, b0, S, g, [(12802, 0)], 5, t0) RL cL_of [(12802, 0)] 5 7 1 6 105 :=
    ⟨B.exec, B.bytes, hml, findClass_of_methodNamed B.named, hws, hVK, hb0, hns, hal2, rfl, rfl, rfl, rfl, rfl, rfl⟩
  have hret : xRetI (p, l, e, (headSpec (Cond.codeWith yL_of cL_of 5 (some .int) [(0, 10, 13, 13)] :: wsY) ({ frames := 7, cells := 1, slots := 6, locals := 105 })).room, s, m, ([.ref a, .int (iI x0), .int (iI x1), .ref o] : List Value).toArray, below, meth, c, MQ below (xQc D kA b0 [(12802, 0)] S g (fun (r : Option Value) (S1 : xT) (g1 : xG) => S = S1 ∧ ∃ z : Int, r = some (.int (iI z)))) ([.ref a, .int (iI x0), .int (iI x1), .ref o] : List Value).toArray s 1 6 (fun q => b0 ≤ q)) (D, kA, b0, S, g, [(12802, 0)], 5, t0) cL_of 1 6 (fun (r : Option Value) (S1 : xT) (g1 : xG) => S = S1 ∧ ∃ z : Int, r = some (.int (iI z))) := by
    intro pc lv z S1 g1 cells slots hd hp hc1 hc2 H locs ls h1 h2 h3 h4 h5 h6
    refine W.widen hc1 hc2 ?_
    exact W.iret (v := iI z) hK.1 hK.2.1 hr (fun t ht hW => ⟨⟨_, S1, g1, rfl, hp, h3, h4, by rw [ht]; exact h1, h2⟩, h5.F ht⟩) h5.2.2 hd
  have h9 : X (p, l, e, (headSpec (Cond.codeWith yL_of cL_of 5 (some .int) [(0, 10, 13, 13)] :: wsY) ({ frames := 7, cells := 1, slots := 6, locals := 105 })).room, s, m, ([.ref a, .int (iI x0), .int (iI x1), .ref o] : List Value).toArray, below, meth, c, MQ below (xQc D kA b0 [(12802, 0)] S g (fun (r : Option Value) (S1 : xT) (g1 : xG) => S = S1 ∧ ∃ z : Int, r = some (.int (iI z)))) ([.ref a, .int (iI x0), .int (iI x1), .ref o] : List Value).toArray s 1 6 (fun q => b0 ≤ q)) (D, kA, b0, S, g, [(12802, 0)], 5, t0) 0 [(0, .ref a), (1, .int (iI x0)), (2, .int (iI x1)), (3, .ref o)] [] S g 0 0 := by
    refine X_aloadn hK (i := 3) 3 kd52_1.2.1 rfl rfl ?_
    refine X_iconst hK kd52_1.2.2.1 ?_
    refine X_aloadn hK (i := 0) 0 kd52_1.2.2.2.1 rfl rfl ?_
    refine X_iloadn hK (i := 1) 1 kd52_1.2.2.2.2.1 rfl rfl ?_
    refine X_iloadn hK (i := 2) 2 kd52_1.2.2.2.2.2.1 rfl rfl ?_
    refine X_callX hK hwx hT h271 [.int (iI x0), .int (iI x1)] [.int (iI 0), .ref o] lk_L_7 (cx_X11_of l hst D kA b0 t0 S g a x0 x1 hs_a hx0 hx1 hal) hs_a ⟨by decide, rfl⟩ kd52_1.2.2.2.2.2.2.1 rfl rfl (by simp [Value.category]) (by decide) (by decide) (by decide) (fun r S1 g1 hp _ _ => ?_) (fun q9 ce H locs ls h1 h2 h3 h4 h5 h6 hc1 hc2 hc3 => ?_)
    · obtain ⟨rfl, rfl, z, rfl, hz1, hz2⟩ := hp
      refine X_st [.int (iI z), .int (iI 0), .ref o] rfl ?_
      refine X_i2l hK kd52_1.2.2.2.2.2.2.2.1 (fun y => ?_)
      refine X_last hK hs_o (by decide) (by decide) sl_12802 (by omega) (by omega) kd52_1.2.2.2.2.2.2.2.2.1 (fun g2 hg2 => ?_)
      refine X_goto hK 17 kd52_1.2.2.2.2.2.2.2.2.2.1 (by decide) ?_
      refine X_iconst hK kd52_2.2.1 ?_
      exact hret _ _ _ _ _ _ _ kd52_2.2.2 ⟨rfl, 0, rfl⟩ (by decide) (by decide)
    · refine vx_catch (own := RL) (name := "java/util/NoSuchElementException") (findClass_of_methodNamed B.named) [] _ [] (htab.trans rfl) (fun z h => nomatch h) rfl (by decide) (hws _ m_41_15) (va_Nw.use rfl hT.1.1) hc1 hc2 hc3 ?_
      refine W.eq (g2 := F0 m 13 ls [.ref q9]) rfl ?_
      have hh : X (p, l, e, (headSpec (Cond.codeWith yL_of cL_of 5 (some .int) [(0, 10, 13, 13)] :: wsY) ({ frames := 7, cells := 1, slots := 6, locals := 105 })).room, s, m, ([.ref a, .int (iI x0), .int (iI x1), .ref o] : List Value).toArray, below, meth, c, MQ below (xQc D kA b0 [(12802, 0)] S g (fun (r : Option Value) (S1 : xT) (g1 : xG) => S = S1 ∧ ∃ z : Int, r = some (.int (iI z)))) ([.ref a, .int (iI x0), .int (iI x1), .ref o] : List Value).toArray s 1 6 (fun q => b0 ≤ q)) (D, kA, b0, S, g, [(12802, 0)], 5, t0) 13 [(0, .ref a), (1, .int (iI x0)), (2, .int (iI x1)), (3, .ref o)] [.ref q9] S g 1 6 := by
        refine X_astore hK (i := 4) [(4, .ref q9), (0, .ref a), (1, .int (iI x0)), (2, .int (iI x1)), (3, .ref o)] kd52_1.2.2.2.2.2.2.2.2.2.2.1 (by decide) rfl ?_
        refine X_iconst hK kd52_1.2.2.2.2.2.2.2.2.2.2.2 ?_
        exact hret _ _ _ _ _ _ _ kd52_2.1 ⟨rfl, 1, rfl⟩ (by decide) (by decide)
      exact hh H locs ls h1 h2 h3 h4 h5 h6
  have hl := lv_entry ([.ref a, .int (iI x0), .int (iI x1), .ref o] : List Value) (n := 5) (by simp [lg_sl, Value.category])
  rw [lg_entry_eq]
  exact h9 s.heap [] _ hR1 hW1 xLe.rf xM.rf va_S.rf hl
set_option maxHeartbeats 4000000 in
set_option maxRecDepth 100000 in
theorem cw_L_coin (l : Launch) (hst : l.stackTraces = false) (D : va_G) (kA : Nat → ClassId) (b0 : Nat) (t0 : Nat → Nat) (S : xT) (g : xG) (a o : Nat) (x0 : Int) (hs_a : S a = some (12, 0)) (hs_o : S o = some (12802, 1)) (hx0 : -2147483648 ≤ x0 ∧ x0 ≤ 2147483647) (hal : xLs S g) : Met l yL_coin (Cond.codeWith yL_coin cL_coin 4 (some .int) [(0, 9, 12, 13)] :: wsY) ({ frames := 7, cells := 1, slots := 6, locals := 103 }) (va_Pc [.ref a, .int (iI x0), .ref o] (fun U => xPx D kA b0 t0 S g U)) (xQc D kA b0 [(12802, 0)] S g (fun (r : Option Value) (S1 : xT) (g1 : xG) => S = S1 ∧ ∃ z : Int, r = some (.int (iI z)))) 1 6 (fun q => b0 ≤ q) := by
  refine va_MetW (cc := cL_coin) (maxL := 4) (ret := (some .int)) (hh := [(0, 9, 12, 13)]) (by decide) rfl ?_
  intro p e s m args below meth c s₁ B hml hv
  obtain ⟨rfl, ⟨hR1, hW1, hVK, hb0, hns, hal2⟩, hT, h271⟩ := hv
  have hr := B.returns
  have hts := atoms_spec (ws := Cond.codeWith yL_coin cL_coin 4 (some .int) [(0, 9, 12, 13)] :: wsY) B.pre
  have hwx : ∀ w ∈ wsY, w.before _ s = true := fun w h => hts w (List.mem_cons_of_mem _ h)
  have hws : ∀ w ∈ wsL_law, w.before _ s = true := fun w h => hwx w (List.mem_append_left _ h)
  have htab := vx_table (x := yL_coin) B (hts _ List.mem_cons_self)
  have hK : xK (p, l, e, (headSpec (Cond.codeWith yL_coin cL_coin 4 (some .int) [(0, 9, 12, 13)] :: wsY) ({ frames := 7, cells := 1, slots := 6, locals := 103 })).room, s, m, ([.ref a, .int (iI x0), .ref o] : List Value).toArray, below, meth, c, MQ below (xQc D kA b0 [(12802, 0)] S g (fun (r : Option Value) (S1 : xT) (g1 : xG) => S = S1 ∧ ∃ z : Int, r = some (.int (iI z)))) ([.ref a, .int (iI x0), .ref o] : List Value).toArray s 1 6 (fun q => b0 ≤ q)) (D, kA, b0, S, g, [(12802, 0)], 4, t0) RL cL_coin [(12802, 0)] 4 7 1 6 103 :=
    ⟨B.exec, B.bytes, hml, findClass_of_methodNamed B.named, hws, hVK, hb0, hns, hal2, rfl, rfl, rfl, rfl, rfl, rfl⟩
  have hret : xRetI (p, l, e, (headSpec (Cond.codeWith yL_coin cL_coin 4 (some .int) [(0, 9, 12, 13)] :: wsY) ({ frames := 7, cells := 1, slots := 6, locals := 103 })).room, s, m, ([.ref a, .int (iI x0), .ref o] : List Value).toArray, below, meth, c, MQ below (xQc D kA b0 [(12802, 0)] S g (fun (r : Option Value) (S1 : xT) (g1 : xG) => S = S1 ∧ ∃ z : Int, r = some (.int (iI z)))) ([.ref a, .int (iI x0), .ref o] : List Value).toArray s 1 6 (fun q => b0 ≤ q)) (D, kA, b0, S, g, [(12802, 0)], 4, t0) cL_coin 1 6 (fun (r : Option Value) (S1 : xT) (g1 : xG) => S = S1 ∧ ∃ z : Int, r = some (.int (iI z))) := by
    intro pc lv z S1 g1 cells slots hd hp hc1 hc2 H locs ls h1 h2 h3 h4 h5 h6
    refine W.widen hc1 hc2 ?_
    exact W.iret (v := iI z) hK.1 hK.2.1 hr (fun t ht hW => ⟨⟨_, S1, g1, rfl, hp, h3, h4, by rw [ht]; exact h1, h2⟩, h5.F ht⟩) h5.2.2 hd
  have h9 : X (p, l, e, (headSpec (Cond.codeWith yL_coin cL_coin 4 (some .int) [(0, 9, 12, 13)] :: wsY) ({ frames := 7, cells := 1, slots := 6, locals := 103 })).room, s, m, ([.ref a, .int (iI x0), .ref o] : List Value).toArray, below, meth, c, MQ below (xQc D kA b0 [(12802, 0)] S g (fun (r : Option Value) (S1 : xT) (g1 : xG) => S = S1 ∧ ∃ z : Int, r = some (.int (iI z)))) ([.ref a, .int (iI x0), .ref o] : List Value).toArray s 1 6 (fun q => b0 ≤ q)) (D, kA, b0, S, g, [(12802, 0)], 4, t0) 0 [(0, .ref a), (1, .int (iI x0)), (2, .ref o)] [] S g 0 0 := by
    refine X_aloadn hK (i := 2) 2 kd52_0.1 rfl rfl ?_
    refine X_iconst hK kd52_0.2.1 ?_
    refine X_aloadn hK (i := 0) 0 kd52_0.2.2.1 rfl rfl ?_
    refine X_iloadn hK (i := 1) 1 kd52_0.2.2.2.1 rfl rfl ?_
    refine X_callX hK hwx hT h271 [.int (iI x0)] [.int (iI 0), .ref o] lk_L_15 (cx_X11_coin l hst D kA b0 t0 S g a x0 hs_a hx0 hal) hs_a ⟨by decide, rfl⟩ kd52_0.2.2.2.2.1 rfl rfl (by simp [Value.category]) (by decide) (by decide) (by decide) (fun r S1 g1 hp _ _ => ?_) (fun q9 ce H locs ls h1 h2 h3 h4 h5 h6 hc1 hc2 hc3 => ?_)
    · obtain ⟨rfl, rfl, z, rfl, hz1, hz2⟩ := hp
      refine X_st [.int (iI z), .int (iI 0), .ref o] rfl ?_
      refine X_i2l hK kd52_0.2.2.2.2.2.1 (fun y => ?_)
      refine X_last hK hs_o (by decide) (by decide) sl_12802 (by omega) (by omega) kd52_0.2.2.2.2.2.2.1 (fun g2 hg2 => ?_)
      refine X_goto hK 15 kd52_0.2.2.2.2.2.2.2.1 (by decide) ?_
      refine X_iconst hK kd52_0.2.2.2.2.2.2.2.2.2.2.2 ?_
      exact hret _ _ _ _ _ _ _ kd52_1.1 ⟨rfl, 0, rfl⟩ (by decide) (by decide)
    · refine vx_catch (own := RL) (name := "java/util/NoSuchElementException") (findClass_of_methodNamed B.named) [] _ [] (htab.trans rfl) (fun z h => nomatch h) rfl (by decide) (hws _ m_41_15) (va_Nw.use rfl hT.1.1) hc1 hc2 hc3 ?_
      refine W.eq (g2 := F0 m 12 ls [.ref q9]) rfl ?_
      have hh : X (p, l, e, (headSpec (Cond.codeWith yL_coin cL_coin 4 (some .int) [(0, 9, 12, 13)] :: wsY) ({ frames := 7, cells := 1, slots := 6, locals := 103 })).room, s, m, ([.ref a, .int (iI x0), .ref o] : List Value).toArray, below, meth, c, MQ below (xQc D kA b0 [(12802, 0)] S g (fun (r : Option Value) (S1 : xT) (g1 : xG) => S = S1 ∧ ∃ z : Int, r = some (.int (iI z)))) ([.ref a, .int (iI x0), .ref o] : List Value).toArray s 1 6 (fun q => b0 ≤ q)) (D, kA, b0, S, g, [(12802, 0)], 4, t0) 12 [(0, .ref a), (1, .int (iI x0)), (2, .ref o)] [.ref q9] S g 1 6 := by
        refine X_astoren hK (i := 3) [(3, .ref q9), (0, .ref a), (1, .int (iI x0)), (2, .ref o)] kd52_0.2.2.2.2.2.2.2.2.1 rfl (by decide) rfl ?_
        refine X_iconst hK kd52_0.2.2.2.2.2.2.2.2.2.1 ?_
        exact hret _ _ _ _ _ _ _ kd52_0.2.2.2.2.2.2.2.2.2.2.1 ⟨rfl, 1, rfl⟩ (by decide) (by decide)
      exact hh H locs ls h1 h2 h3 h4 h5 h6
  have hl := lv_entry ([.ref a, .int (iI x0), .ref o] : List Value) (n := 4) (by simp [lg_sl, Value.category])
  rw [lg_entry_eq]
  exact h9 s.heap [] _ hR1 hW1 xLe.rf xM.rf va_S.rf hl
