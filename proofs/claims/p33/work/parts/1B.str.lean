section XS
variable {K : xCx} {E : xEn} {own : String} {cc : ByteArray} {Lw : List (Nat × Nat)} {nL rf rc rs rl : Nat} {pc : Nat} {lv : List (Nat × Value)} {st : List Value} {S : xT} {g : xG} {cells slots : Nat}
theorem X_ldcS (hK : xK K E RX7 cc Lw nL rf rc rs rl) (hd : decode cc pc = .ok (.ldc 98, 2)) (k : X K E (pc + 2) lv (.ref (E.2.2.2.2.2.2.2 3) :: st) S g cells slots) : X K E pc lv st S g cells slots :=
  fun H locs ls h1 h2 h3 h4 h5 h6 => va_ldcS hK.1 hK.2.1 hK.2.2.2.1 (hK.2.2.2.2.2.2.2.1).2.2.2.2.2 hd (k H locs ls h1 h2 h3 h4 h5 h6)
theorem X_sval (hK : xK K E own cc Lw nL rf rc rs rl) {idx : Nat} (hw : Cond.fieldLink own idx "java/lang/String" "value" "[B" ∈ wsL_law) (hd : decode cc pc = .ok (.getfield idx, 3)) (k : X K E (pc + 3) lv (.ref (E.2.2.2.2.2.2.2 4) :: st) S g cells slots) : X K E pc lv (.ref (E.2.2.2.2.2.2.2 3) :: st) S g cells slots :=
  fun H locs ls h1 h2 h3 h4 h5 h6 => vk_getf hK.1 hK.2.1 (((hK.2.2.2.2.2.2.2.2.1).2.2.2.2.1).1 0 (by decide)).2.2.1 h5 hK.2.2.2.1 (hK.2.2.2.2.1 _ hw) (fun _ q => q) hd (k H locs ls h1 h2 h3 h4 h5 h6)
theorem X_sco (hK : xK K E own cc Lw nL rf rc rs rl) {idx : Nat} (hw : Cond.fieldLink own idx "java/lang/String" "coder" "B" ∈ wsL_law) (hd : decode cc pc = .ok (.getfield idx, 3)) (k : X K E (pc + 3) lv (.int (iI 0) :: st) S g cells slots) : X K E pc lv (.ref (E.2.2.2.2.2.2.2 3) :: st) S g cells slots :=
  fun H locs ls h1 h2 h3 h4 h5 h6 => vk_getf hK.1 hK.2.1 (((hK.2.2.2.2.2.2.2.2.1).2.2.2.2.1).1 0 (by decide)).2.1 h5 hK.2.2.2.1 (hK.2.2.2.2.1 _ hw) (fun _ q => q) hd (k H locs ls h1 h2 h3 h4 h5 h6)
theorem X_gcs (hK : xK K E own cc Lw nL rf rc rs rl) {idx : Nat} (hw : Cond.fieldLink own idx "java/lang/String" "COMPACT_STRINGS" "Z" ∈ wsL_law) (hd : decode cc pc = .ok (.getstatic idx, 3)) (k : X K E (pc + 3) lv (.int (iI 1) :: st) S g cells slots) : X K E pc lv st S g cells slots :=
  fun H locs ls h1 h2 h3 h4 h5 h6 => va_gets hK.1 hK.2.1 (hK.2.2.2.2.2.2.2.2.1).2.2.2.2.2.1 h5 hK.2.2.2.1 (hK.2.2.2.2.1 _ hw) (fun _ q => q) hd (k H locs ls h1 h2 h3 h4 h5 h6)
theorem X_gfm (hK : xK K E own cc Lw nL rf rc rs rl) {idx : Nat} (hw : Cond.fieldLink own idx "jdk/internal/util/Preconditions" "SIOOBE_FORMATTER" "Ljava/util/function/BiFunction;" ∈ wsL_law) (hd : decode cc pc = .ok (.getstatic idx, 3)) (k0 : X K E (pc + 3) lv (.null :: st) S g cells slots) (k1 : ∀ q : Nat, X K E (pc + 3) lv (.ref q :: st) S g cells slots) : X K E pc lv st S g cells slots := by
  intro H locs ls h1 h2 h3 h4 h5 h6
  rcases (hK.2.2.2.2.2.2.2.2.1).2.2.2.2.2.2 with h | ⟨t, h⟩
  · exact va_gets hK.1 hK.2.1 h h5 hK.2.2.2.1 (hK.2.2.2.2.1 _ hw) (fun _ q => q) hd (k0 H locs ls h1 h2 h3 h4 h5 h6)
  · exact va_gets hK.1 hK.2.1 h h5 hK.2.2.2.1 (hK.2.2.2.2.1 _ hw) (fun _ q => q) hd (k1 t H locs ls h1 h2 h3 h4 h5 h6)
theorem X_slen (hK : xK K E own cc Lw nL rf rc rs rl) (hd : decode cc pc = .ok (.arraylength, 1)) (k : X K E (pc + 1) lv (.int (iI 114) :: st) S g cells slots) : X K E pc lv (.ref (E.2.2.2.2.2.2.2 4) :: st) S g cells slots := by
  intro H locs ls h1 h2 h3 h4 h5 h6
  obtain ⟨cell, w1, w2, w3, w4, w5, w6, w7⟩ := (((hK.2.2.2.2.2.2.2.2.1).2.2.2.2.1).1 0 (by decide)).2.2.2
  have hl : (E.2.2.2.2.2.2.2 4) < K.2.2.2.2.1.heap.size := (Array.getElem?_eq_some_iff.mp w1).1
  exact W.alen (n := iI 114) hK.1 hK.2.1 (by rw [h5.2.1 _ hl w7]; exact w1) w2 w5 rfl rfl hd (k H locs ls h1 h2 h3 h4 h5 h6)
theorem X_sbl (hK : xK K E own cc Lw nL rf rc rs rl) {j : Int} (q1 : 0 ≤ j) (q2 : j < 114) (hd : decode cc pc = .ok (.baload, 1)) (k : ∀ z : Int, -2147483648 ≤ z → z ≤ 2147483647 → X K E (pc + 1) lv (.int (iI z) :: st) S g cells slots) : X K E pc lv (.int (iI j) :: .ref (E.2.2.2.2.2.2.2 4) :: st) S g cells slots := by
  intro H locs ls h1 h2 h3 h4 h5 h6
  obtain ⟨cell, w1, w2, w3, w4, w5, w6, w7⟩ := (((hK.2.2.2.2.2.2.2.2.1).2.2.2.2.1).1 0 (by decide)).2.2.2
  have hl : (E.2.2.2.2.2.2.2 4) < K.2.2.2.2.1.heap.size := (Array.getElem?_eq_some_iff.mp w1).1
  have hj : j.toNat < 114 := by omega
  change 114 ≤ _ at w4
  have hv : cell.slots[j.toNat]? = some (.int ((([wdB] : List (List Int32)).getD 0 []).getD j.toNat 0)) := w6 j.toNat hj
  obtain ⟨z, e, z1, z2⟩ := iI_any ((([wdB] : List (List Int32)).getD 0 []).getD j.toNat 0)
  rw [e] at hv
  exact W.bald (v := .int (iI z)) hK.1 hK.2.1 (by rw [h5.2.1 _ hl w7]; exact w1) w2 w3 (by rw [iI_clamp q1 (by omega), ← iI_0, iI_lt (by omega) (by omega)]; omega) (by rw [iI_clamp q1 (by omega)]; exact hv) rfl rfl hd (k z z1 z2 H locs ls h1 h2 h3 h4 h5 h6)
theorem X_i2c (hK : xK K E own cc Lw nL rf rc rs rl) {a : Int} (ha : 0 ≤ a ∧ a ≤ 65535) (hd : decode cc pc = .ok (.i2c, 1)) (k : X K E (pc + 1) lv (.int (iI a) :: st) S g cells slots) : X K E pc lv (.int (iI a) :: st) S g cells slots := by
  intro H locs ls h1 h2 h3 h4 h5 h6
  refine lv_i2c (v := iI a) hK.1 hK.2.1 hd ?_ (k H locs ls h1 h2 h3 h4 h5 h6)
  have e1 : iI a = nI a.toNat := by
    have : ((a.toNat : Nat) : Int) = a := by omega
    unfold iI nI
    rw [← this]
    exact Int32.ofInt_eq_ofNat
  rw [e1, pk_char, pk_tn (by omega), Nat.mod_eq_of_lt (by omega)]
theorem X_callVs (hK : xK K E own cc Lw nL rf rc rs rl) {L1 : List (Nat × Nat)} {post : Option Value → xT → xG → Prop} {mc ms idx mx rf1 rl1 n : Nat} {y : MethodName} {cy : ByteArray} {ret : Option FieldType} (As rest : List Value) (hw : xLV own idx y cy mx ret n) (hy : y.cls = "java/lang/String") (hM : xMt K.2.1 y cy mx ret rf1 mc ms rl1 E.1 E.2.1 E.2.2.1 E.2.2.2.2.2.2.2 L1 (.ref (E.2.2.2.2.2.2.2 3) :: As) S g post) (hd : decode cc pc = .ok (.invokevirtual idx, 3)) (hst : st = As.reverse ++ .ref (E.2.2.2.2.2.2.2 3) :: rest) (hn : As.length = n) (hc : (rest.map fun v => v.category).sum ≤ 8) (hrm : rf1 + 1 ≤ rf ∧ 8 + (mx + 11) + rl1 ≤ rl) (hrc : cells + mc ≤ rc) (hrs : slots + ms ≤ rs) (hL : ∀ q ∈ L1, q ∈ Lw)
    (kk : ∀ (r : Option Value) (S1 : xT) (g1 : xG), post r S1 g1 → xLe S S1 → xM L1 S g g1 → X K E (pc + 3) lv (r.toList ++ rest) S1 g1 (cells + mc) (slots + ms)) : X K E pc lv st S g cells slots := by
  subst hst
  refine xCall hK (As := As) (a := (Value.ref (E.2.2.2.2.2.2.2 3) :: As).toArray) (mc := mc) (ms := ms) (rest := rest) ?_ hL kk
  intro H locs ls h1 h2 h5 h6
  obtain ⟨w1, w2, w3, w4, w5, w6⟩ := hw
  exact va_runV (As := As) (rest := rest) (C := y.cls) ⟨hK.1, hK.2.1, hK.2.2.1.trans (hK.2.2.2.2.2.2.2.2.2.2.2.2.2.1).symm, hK.2.2.2.1, hK.2.2.2.2.1⟩ hM (cwV n hK.2.2.2.2.1 (gw_V w1 w2 w3 w4 w5) rfl rfl rfl ⟨rfl, w6⟩ ⟨by rw [hK.2.2.2.2.2.2.2.2.2.1]; exact hrm.1, by rw [hK.2.2.2.2.2.2.2.2.2.2.2.2.1]; exact hrm.2⟩) ⟨xPre.blind, (by rw [hy]; exact vk_recv (i := 0) ((hK.2.2.2.2.2.2.2.2.1).2.2.2.2.1) (by decide) h5), fun U hU hW => ⟨rfl, xPreOf hK h1 h2 h5 U hU hW⟩⟩ rfl hn h6.1 rfl (lv_room hc) hd ⟨by rw [hK.2.2.2.2.2.2.2.2.2.2.1]; exact hrc, by rw [hK.2.2.2.2.2.2.2.2.2.2.2.1]; exact hrs⟩
end XS
def xRetT (K : xCx) (E : xEn) (cc : ByteArray) (rc rs : Nat) (lo hi : Int) (post : Option Value → xT → xG → Prop) : Prop := ∀ (pc : Nat) (lv : List (Nat × Value)) (z : Int) (S1 : xT) (g1 : xG) (cells slots : Nat), decode cc pc = .ok (.ireturn, 1) → lo ≤ z → z ≤ hi → post (some (.int (iI z))) S1 g1 → cells ≤ rc → slots ≤ rs → X K E pc lv [.int (iI z)] S1 g1 cells slots
theorem xEnterT {y : MethodName} {cy : ByteArray} {mx rf rc rs rl : Nat} {l : Launch} {D : va_G} {kA : Nat → ClassId} {b0 : Nat} {t0 : Nat → Nat} {L : List (Nat × Nat)} {av : List Value} {S : xT} {g : xG} {post : Option Value → xT → xG → Prop} {ty : FieldType} (lo hi : Int) (hnar : ∀ z : Int, lo ≤ z → z ≤ hi → narrow ty (.int (iI z)) = .int (iI z)) (hy : plainName y.cls = true) (hlen : (lg_sl av).length ≤ mx) (lv0 : List (Nat × Value)) (hlv : lv_args 0 av = lv0)
    (body : ∀ (K : xCx) (E : xEn), xK K E y.cls cy L mx rf rc rs rl → xRetT K E cy rc rs lo hi post → E.2.2.2.2.2.2.2 = t0 → X K E 0 lv0 [] S g 0 0) : xMt l y cy mx (some ty) rf rc rs rl D kA b0 t0 L av S g post := by
  refine Met.ofW (cc := cy) (maxL := mx) (ret := some ty) hy rfl ?_
  intro p e s m args below meth c s₁ B hml hv
  obtain ⟨rfl, hR1, hW1, hVK, hb0, hns, hal⟩ := hv
  have hr := B.returns
  have hts := atoms_spec (ws := Cond.code y cy mx (some ty) :: wsL_law) B.pre
  have hlocks := B.notSynchronized
  have hK : xK (p, l, e, (headSpec (Cond.code y cy mx (some ty) :: wsL_law) ({ frames := rf, cells := rc, slots := rs, locals := rl })).room, s, m, av.toArray, below, meth, c, MQ below (xQc D kA b0 L S g post) av.toArray s rc rs (fun q => b0 ≤ q)) (D, kA, b0, S, g, L, mx, t0) y.cls cy L mx rf rc rs rl :=
    ⟨B.exec, B.bytes, hml, findClass_of_methodNamed B.named, fun w h => hts w (List.mem_cons_of_mem _ h), hVK, hb0, hns, hal, rfl, rfl, rfl, rfl, rfl, rfl⟩
  have h9 := body _ _ hK (by
    intro pc lv z S1 g1 cells slots hd w1 w2 hp hc1 hc2 H locs ls h1 h2 h3 h4 h5 h6
    refine W.widen hc1 hc2 ?_
    exact W.zret (v := iI z) (ty := ty) hK.1 hK.2.1 hr (hnar z w1 w2) (fun t ht hW => ⟨⟨_, S1, g1, rfl, hp, h3, h4, by rw [ht]; exact h1, h2⟩, h5.F ht⟩) h5.2.2 hd) rfl
  have hl := lv_entry av (n := mx) hlen
  rw [lg_entry_eq]
  rw [hlv] at hl
  exact h9 s.heap [] _ hR1 hW1 xLe.rf xM.rf va_S.rf hl
theorem nar_char {z : Int} (h1 : 0 ≤ z) (h2 : z ≤ 65535) : narrow .char (.int (iI z)) = .int (iI z) := by
  have e1 : iI z = nI z.toNat := by
    have : ((z.toNat : Nat) : Int) = z := by omega
    unfold iI nI
    rw [← this]
    exact Int32.ofInt_eq_ofNat
  rw [e1]
  exact (pk_charN (by omega)).1
theorem nar_byte {z : Int} (h1 : 0 ≤ z) (h2 : z ≤ 1) : narrow .byte (.int (iI z)) = .int (iI z) := by
  rcases (show z = 0 ∨ z = 1 by omega) with rfl | rfl <;> rfl
