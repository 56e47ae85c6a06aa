section XL
variable {K : xCx} {E : xEn} {own : String} {cc : ByteArray} {Lw : List (Nat × Nat)} {nL rf rc rs rl : Nat} {pc : Nat} {lv : List (Nat × Value)} {st : List Value} {S : xT} {g : xG} {cells slots : Nat}
theorem X_null (hK : xK K E own cc Lw nL rf rc rs rl) (hd : decode cc pc = .ok (.aconst_null, 1)) (k : X K E (pc + 1) lv (.null :: st) S g cells slots) : X K E pc lv st S g cells slots :=
  fun H locs ls h1 h2 h3 h4 h5 h6 => lv_null hK.1 hK.2.1 hd (k H locs ls h1 h2 h3 h4 h5 h6)
theorem X_dupx1 (hK : xK K E own cc Lw nL rf rc rs rl) {v w : Value} (hd : decode cc pc = .ok (.dup_x1, 1)) (hv : v.category = 1) (hw : w.category = 1) (k : X K E (pc + 1) lv (v :: w :: v :: st) S g cells slots) : X K E pc lv (v :: w :: st) S g cells slots :=
  fun H locs ls h1 h2 h3 h4 h5 h6 => lv_dup_x1 hK.1 hK.2.1 hd hv hw (k H locs ls h1 h2 h3 h4 h5 h6)
theorem X_acmp_eq (hK : xK K E own cc Lw nL rf rc rs rl) {a b : Nat} {off : Int} (tgt : Nat) (hd : decode cc pc = .ok (.if_acmp .eq off, 3)) (ht : (pc : Int) + off = (tgt : Int)) (kt : a = b → X K E tgt lv st S g cells slots) (kf : a ≠ b → X K E (pc + 3) lv st S g cells slots) : X K E pc lv (.ref b :: .ref a :: st) S g cells slots :=
  fun H locs ls h1 h2 h3 h4 h5 h6 => lv_acmp_eq (rx := some a) (ry := some b) (tgt := tgt) hK.1 hK.2.1 hd ht (fun q => kt (Option.some.inj q) H locs ls h1 h2 h3 h4 h5 h6) (fun q => kf (fun w => q (congrArg some w)) H locs ls h1 h2 h3 h4 h5 h6)
theorem X_acmp_ne (hK : xK K E own cc Lw nL rf rc rs rl) {a b : Nat} {off : Int} (tgt : Nat) (hd : decode cc pc = .ok (.if_acmp .ne off, 3)) (ht : (pc : Int) + off = (tgt : Int)) (kt : a ≠ b → X K E tgt lv st S g cells slots) (kf : a = b → X K E (pc + 3) lv st S g cells slots) : X K E pc lv (.ref b :: .ref a :: st) S g cells slots :=
  fun H locs ls h1 h2 h3 h4 h5 h6 => lv_acmp_ne (rx := some a) (ry := some b) (tgt := tgt) hK.1 hK.2.1 hd ht (fun q => kt (fun w => q (congrArg some w)) H locs ls h1 h2 h3 h4 h5 h6) (fun q => kf (Option.some.inj q) H locs ls h1 h2 h3 h4 h5 h6)
theorem X_getE (hK : xK K E own cc Lw nL rf rc rs rl) {idx : Nat} (hw : Cond.fieldLink own idx "java/util/ArrayList" "DEFAULTCAPACITY_EMPTY_ELEMENTDATA" "[Ljava/lang/Object;" ∈ wsL_law) (hd : decode cc pc = .ok (.getstatic idx, 3)) (k : X K E (pc + 3) lv (.ref (E.2.2.2.2.2.2.2 0) :: st) S g cells slots) : X K E pc lv st S g cells slots :=
  fun H locs ls h1 h2 h3 h4 h5 h6 => va_gets hK.1 hK.2.1 (hK.2.2.2.2.2.2.2.2.1).1.1 h5 hK.2.2.2.1 (hK.2.2.2.2.1 _ hw) (fun _ q => q) hd (k H locs ls h1 h2 h3 h4 h5 h6)
theorem X_getW (hK : xK K E RX10 cc Lw nL rf rc rs rl) (hd : decode cc pc = .ok (.getstatic 41, 3)) (k : X K E (pc + 3) lv (.ref (E.2.2.2.2.2.2.2 1) :: st) S g cells slots) : X K E pc lv st S g cells slots :=
  fun H locs ls h1 h2 h3 h4 h5 h6 => va_getsN hK.1 hK.2.1 (hK.2.2.2.2.2.2.2.2.1).2.1 h5 hK.2.2.2.1 (va_Nw.use rfl (hK.2.2.2.2.2.2.2.1).2.2.2.2.1) (fun _ q => q) hd (k H locs ls h1 h2 h3 h4 h5 h6)
theorem X_wald (hK : xK K E own cc Lw nL rf rc rs rl) {j : Int} (q1 : 0 ≤ j) (q2 : j < 6) (hd : decode cc pc = .ok (.iaload, 1)) (k : ∀ z : Int, z = wl0 j.toNat → 0 ≤ z → z ≤ 200 → X K E (pc + 1) lv (.int (iI z) :: st) S g cells slots) : X K E pc lv (.int (iI j) :: .ref (E.2.2.2.2.2.2.2 1) :: st) S g cells slots := by
  intro H locs ls h1 h2 h3 h4 h5 h6
  obtain ⟨cell, w1, w2, w3, w4, w5, w6, w7⟩ := (hK.2.2.2.2.2.2.2.2.1).2.2.1
  have hl : (E.2.2.2.2.2.2.2 1) < K.2.2.2.2.1.heap.size := (Array.getElem?_eq_some_iff.mp w1).1
  have hj : j.toNat < 6 := by omega
  have hsz : cell.slots.size = 6 ∨ 6 < cell.slots.size := by omega
  have hb : 0 ≤ wl0 j.toNat ∧ wl0 j.toNat ≤ 200 := by
    rcases (show j.toNat = 0 ∨ j.toNat = 1 ∨ j.toNat = 2 ∨ j.toNat = 3 ∨ j.toNat = 4 ∨ j.toNat = 5 by omega) with h | h | h | h | h | h <;> rw [h] <;> decide
  exact W.iald (v := .int (iI (wl0 j.toNat))) hK.1 hK.2.1 (by rw [h5.2.1 _ hl w7]; exact w1) w2 w3 (by rw [iI_clamp q1 (by omega), ← iI_0, iI_lt (by omega) (by omega)]; omega) (by rw [iI_clamp q1 (by omega)]; exact w6 _ hj) rfl rfl hd (k _ rfl hb.1 hb.2 H locs ls h1 h2 h3 h4 h5 h6)
theorem X_anew (hK : xK K E own cc Lw nL rf rc rs rl) {idx : Nat} {n : Int} (t : Nat) (te : Int) (hw : Cond.classLink own idx "java/lang/Object" ∈ wsL_law) (ht : 10000 ≤ t ∧ t < 20000 ∧ t % 100 = 3) (hsl : ∀ k, xsl t k = (2, te, 0)) (hn : 0 ≤ n) (hb : n.toNat * 4 ≤ 536870912 ∧ n ≤ 2147483647) (hc : cells + 1 ≤ rc) (hs : slots + n.toNat ≤ rs) (hd : decode cc pc = .ok (.anewarray idx, 3))
    (kk : ∀ (q : Nat) (S1 : xT) (g1 : xG), E.2.2.2.1 q = none → S q = none → S1 = xset S q (t, n.toNat) → g1 = xrow g q (fun _ => .null) → xLe S S1 → S1 q = some (t, n.toNat) → X K E (pc + 3) lv (.ref q :: st) S1 g1 (cells + 1) (slots + n.toNat)) : X K E pc lv (.int (iI n) :: st) S g cells slots := by
  intro H locs ls h1 h2 h3 h4 h5 h6
  have hq := xfree h1
  have hq0 : E.2.2.2.1 H.size = none := by
    cases h9 : E.2.2.2.1 H.size with
    | none => rfl
    | some p => rw [h3 _ _ h9] at hq; cases hq
  refine W.anew hK.1 hK.2.1 hK.2.2.2.1 (hK.2.2.2.2.1 _ hw) (va_AO.use (hK.2.2.2.2.2.2.2.1).1.2.2.1) rfl hd rfl (by rw [← iI_0, iI_lt (by omega) (by omega)]; omega) (by rw [iI_clamp hn hb.2]; exact hb.1) (by rw [hK.2.2.2.2.2.2.2.2.2.2.1]; exact hc) (by rw [iI_clamp hn hb.2, hK.2.2.2.2.2.2.2.2.2.2.2.1]; exact hs) fun cA kA comp f1 f2 f3 f4 => ?_
  rw [iI_clamp hn hb.2]
  have hcl : cA = E.2.1 3 := by
    obtain ⟨_, _, -, -, -, h9⟩ := ((hK.2.2.2.2.2.1).2 3 _ rfl).2
    exact Option.some.inj (f1.symm.trans h9)
  have ho : ∀ a, a < H.size → ∀ x : Cell, (H.push x)[a]? = H[a]? := fun a ha x => by rw [Array.getElem?_push, if_neg (Nat.ne_of_lt ha)]
  refine kk H.size _ _ hq0 hq rfl rfl (xset_le hq) (xset_s _ _ _) _ locs ls (xR_new h1 rfl (Nat.le_trans hK.2.2.2.2.2.2.1 h5.1) (fun a ha => ho a ha _) (Or.inr ⟨ht.1, Or.inl ⟨ht.2.1, ?_⟩⟩)) (xW_new h2 hq (fun k _ => by rw [hsl]; exact Or.inl rfl)) (h3.tr (xset_le hq)) (xM_new h4 hq0) ⟨Nat.le_trans h5.1 (by simp), fun x w1 w2 => (ho x (Nat.lt_of_lt_of_le w1 h5.1) _).trans (h5.2.1 x w1 w2), h5.2.2⟩ h6
  rw [ht.2.2, ← hcl, ← arrV_new]
  simp
theorem xany {D : va_G} {kA : Nat → ClassId} {b0 : Nat} {H : Heap} {U : State} {a t n : Nat} {C : String} {T : u_T} {N : Nat} (hV : va_K D vwCl (xtys kA) U) (h1 : xR D kA b0 S g H) (hs : S a = some (t, n)) (ht : t < 10000) (hc : vwCl[t % 100]? = some (C, T, N)) (hcast : va_Nw (.castable C "java/lang/Object") U) : ∃ cell : Cell, H[a]? = some cell ∧ cell.vm = .none ∧ (∃ kC : Class, U.vm.classes[cell.cls]? = some kC) ∧ ∀ comp : ClassId, U.vm.findClass "java/lang/Object" = some comp → U.vm.assignable cell.cls comp = true := by
  obtain ⟨r, g1, cell, q1, q2, q3, -⟩ := xat_o (h1 a t n hs).2 ht
  have hfc := (hV.1 _ _ hc).2.1
  obtain ⟨kC, hkC, -⟩ := Vm.findClass_spec hfc
  refine ⟨cell, q1, q3, ⟨kC, by rw [q2]; exact hkC⟩, fun comp hcomp => ?_⟩
  obtain ⟨c0, t0, f1, f2, f3⟩ := Cond.castable_spec (va_Nw.use (A := #[]) rfl hcast)
  cases hfc.symm.trans f1
  cases hcomp.symm.trans f2
  rw [q2]
  exact f3
theorem X_oast (hK : xK K E own cc Lw nL rf rc rs rl) {a v t n te ne : Nat} {j : Int} {C : String} {T : u_T} {N : Nat} (hs : S a = some (t, n)) (hv : S v = some (te, ne)) (ht : 10000 ≤ t ∧ t < 20000 ∧ t % 100 = 3 ∧ n ≤ 2147483647) (hte : te < 10000 ∧ vwCl[te % 100]? = some (C, T, N)) (hcast : ∀ τ U, xWd τ U → va_Nw (.castable C "java/lang/Object") U) (hsl : ∀ k, xsl t k = (2, (te : Int), 0)) (hL : (t, 0) ∈ Lw) (q1 : 0 ≤ j) (q2 : j < n) (hd : decode cc pc = .ok (.aastore, 1)) (kk : ∀ g1 : xG, g1 = xup g a j.toNat (.ref v) → X K E (pc + 1) lv st S g1 cells slots) : X K E pc lv (.ref v :: .int (iI j) :: .ref a :: st) S g cells slots := by
  intro H locs ls h1 h2 h3 h4 h5 h6
  have hc := xat_a (h1 a t n hs).2 ht.1 (Or.inl ht.2.1)
  rw [ht.2.2.1] at hc
  obtain ⟨kA9, comp, k1, k2, k3, -⟩ := ((hK.2.2.2.2.2.1).2 3 _ rfl).2
  obtain ⟨kcomp, hkcomp, -⟩ := Vm.findClass_spec k3
  obtain ⟨cellV, g1, g3, ⟨kC, hkC⟩, hasg⟩ := xany hK.2.2.2.2.2.1 h1 hv hte.1 hte.2 (hcast _ _ hK.2.2.2.2.2.2.2.1)
  have hlt : j.toNat < n := by omega
  have hb : E.2.2.1 ≤ a := by rcases (h1 a t n hs).1 with h | h <;> omega
  refine W.aast hK.1 hK.2.1 hc (fun q h => by cases h) (fun h => by cases h) k1 k2 rfl hkcomp ⟨by rw [← iI_0, iI_lt (by omega) (by omega)]; omega, by rw [iI_clamp q1 (by omega)]; show _ < (arrV _ _ _).slots.size; rw [arrV_size]; exact hlt⟩ g1 (fun q h => by rw [g3] at h; cases h) hkC (hasg _ k3) rfl rfl hd fun H' e1 e2 e3 => ?_
  rw [iI_clamp q1 (by omega)] at e1 ⊢
  refine kk _ rfl H' _ ls (h1.up hs (Or.inr ⟨ht.1, Or.inl ⟨ht.2.1, by rw [ht.2.2.1, e1, arrV_store]⟩⟩) e3) (h2.up hs (by rw [hsl]; exact Or.inr ⟨v, ne, rfl, hv⟩)) h3 ?_ (h5.put e2 e3 hb) h6
  intro b t' n' k' hb' hj
  by_cases e : b = a ∧ k' = j.toNat
  · obtain ⟨rfl, rfl⟩ := e
    have hx := h3 _ _ hb'
    rw [hs] at hx
    cases hx
    exact absurd (by rw [xky_a ht.1, hK.2.2.2.2.2.2.2.2.2.2.2.2.2.2]; exact hL) hj
  · show (if b = a ∧ k' = j.toNat then (.ref v : Value) else g b k') = _
    rw [if_neg e]
    exact h4 b t' n' k' hb' hj
theorem X_nast (hK : xK K E own cc Lw nL rf rc rs rl) {a t n : Nat} {te : Int} {j : Int} (hs : S a = some (t, n)) (ht : 10000 ≤ t ∧ t < 20000 ∧ t % 100 = 3 ∧ n ≤ 2147483647) (hsl : ∀ k, xsl t k = (2, te, 0)) (hL : (t, 0) ∈ Lw) (q1 : 0 ≤ j) (q2 : j < n) (hd : decode cc pc = .ok (.aastore, 1)) (kk : ∀ g1 : xG, g1 = xup g a j.toNat .null → X K E (pc + 1) lv st S g1 cells slots) : X K E pc lv (.null :: .int (iI j) :: .ref a :: st) S g cells slots := by
  intro H locs ls h1 h2 h3 h4 h5 h6
  have hc := xat_a (h1 a t n hs).2 ht.1 (Or.inl ht.2.1)
  rw [ht.2.2.1] at hc
  have ha := ((hK.2.2.2.2.2.1).2 3 _ rfl).1 n (g a)
  have hlt : j.toNat < n := by omega
  have hb : E.2.2.1 ≤ a := by rcases (h1 a t n hs).1 with h | h <;> omega
  refine va_WaastN (C := "java/lang/Object") hK.1 hK.2.1 hc ha (fun q => by cases q) (by rw [arrV_size]; exact iI_in q1 q2 ht.2.2.2) rfl rfl hd fun H' e1 e2 e3 => ?_
  rw [iI_clamp q1 (by omega)] at e1 ⊢
  refine kk _ rfl H' _ ls (h1.up hs (Or.inr ⟨ht.1, Or.inl ⟨ht.2.1, by rw [ht.2.2.1, e1, arrV_store]⟩⟩) e3) (h2.up hs (by rw [hsl]; exact Or.inl rfl)) h3 ?_ (h5.put e2 e3 hb) h6
  intro b t' n' k' hb' hj
  by_cases e : b = a ∧ k' = j.toNat
  · obtain ⟨rfl, rfl⟩ := e
    have hx := h3 _ _ hb'
    rw [hs] at hx
    cases hx
    exact absurd (by rw [xky_a ht.1, hK.2.2.2.2.2.2.2.2.2.2.2.2.2.2]; exact hL) hj
  · show (if b = a ∧ k' = j.toNat then (.null : Value) else g b k') = _
    rw [if_neg e]
    exact h4 b t' n' k' hb' hj
theorem X_ldcM (hK : xK K E own cc Lw nL rf rc rs rl) {idx : Nat} (hw : Cond.classLink own idx "[Ljava/lang/Object;" ∈ wsL_law) (hd : decode cc pc = .ok (.ldc idx, 2)) (k : X K E (pc + 2) lv (.ref (E.2.2.2.2.2.2.2 2) :: st) S g cells slots) : X K E pc lv st S g cells slots :=
  fun H locs ls h1 h2 h3 h4 h5 h6 => va_ldcM hK.1 hK.2.1 hK.2.2.2.1 (hK.2.2.2.2.1 _ hw) (hK.2.2.2.2.2.2.2.2.1).2.2.2.1 hd (k H locs ls h1 h2 h3 h4 h5 h6)
theorem X_getC (hK : xK K E own cc Lw nL rf rc rs rl) {idx a t n : Nat} (hs : S a = some (t, n)) (ht : 10000 ≤ t ∧ t % 100 = 3) (hw : Cond.methodLink own idx ⟨"java/lang/Object", "getClass", "()Ljava/lang/Class;"⟩ ∈ wsL_law ∧ Cond.selects "[Ljava/lang/Object;" ⟨"java/lang/Object", "getClass", "()Ljava/lang/Class;"⟩ ⟨"java/lang/Object", "getClass", "()Ljava/lang/Class;"⟩ ∈ wsL_law ∧ Cond.instanceMethod ⟨"java/lang/Object", "getClass", "()Ljava/lang/Class;"⟩ ∈ wsL_law ∧ Cond.native ⟨"java/lang/Object", "getClass", "()Ljava/lang/Class;"⟩ ∈ wsL_law) (hr : 1 ≤ rf ∧ (st.map fun v => v.category).sum + 14 ≤ rl) (hd : decode cc pc = .ok (.invokevirtual idx, 3)) (k : X K E (pc + 3) lv (.ref (E.2.2.2.2.2.2.2 2) :: st) S g cells slots) : X K E pc lv (.ref a :: st) S g cells slots := by
  intro H locs ls h1 h2 h3 h4 h5 h6
  have hfc : K.2.2.2.2.1.vm.findClass "[Ljava/lang/Object;" = some (E.2.1 3) := va_nmO ((hK.2.2.2.2.2.1).2 3 _ rfl).2 rfl
  rcases (h1 a t n hs).2 with ⟨h, -⟩ | ⟨-, ⟨-, hc⟩ | ⟨-, -, cell, hc, hcl, -, hst, -⟩⟩
  · omega
  · rw [ht.2] at hc
    exact va_getC hK.1 hK.2.1 (hK.2.2.1.trans ((hK.2.2.2.2.2.2.2.2.2.2.2.2.2.1).symm.trans h6.1.symm)) hK.2.2.2.1 (hK.2.2.2.2.1 _ hw.1) (va_Dc.use (hK.2.2.2.2.2.2.2.1).2.2.2.1) (hK.2.2.2.2.1 _ hw.2.1) (hK.2.2.2.2.1 _ hw.2.2.1) (hK.2.2.2.2.1 _ hw.2.2.2) (hK.2.2.2.2.2.2.2.2.1).2.2.2.1 ⟨_, hc, rfl, hfc⟩ (by rw [hK.2.2.2.2.2.2.2.2.2.1]; exact hr.1) (by rw [hK.2.2.2.2.2.2.2.2.2.2.2.2.1]; exact hr.2) hd (k H locs ls h1 h2 h3 h4 h5 h6)
  · rw [ht.2] at hcl
    exact va_getC hK.1 hK.2.1 (hK.2.2.1.trans ((hK.2.2.2.2.2.2.2.2.2.2.2.2.2.1).symm.trans h6.1.symm)) hK.2.2.2.1 (hK.2.2.2.2.1 _ hw.1) (va_Dc.use (hK.2.2.2.2.2.2.2.1).2.2.2.1) (hK.2.2.2.2.1 _ hw.2.1) (hK.2.2.2.2.1 _ hw.2.2.1) (hK.2.2.2.2.1 _ hw.2.2.2) (hK.2.2.2.2.2.2.2.2.1).2.2.2.1 ⟨_, hc, hst, by rw [hcl]; exact hfc⟩ (by rw [hK.2.2.2.2.2.2.2.2.2.1]; exact hr.1) (by rw [hK.2.2.2.2.2.2.2.2.2.2.2.2.1]; exact hr.2) hd (k H locs ls h1 h2 h3 h4 h5 h6)
theorem X_cast (hK : xK K E own cc Lw nL rf rc rs rl) {idx a t n : Nat} {C : String} {T : u_T} {N : Nat} (hs : S a = some (t, n)) (ht : t < 10000 ∧ vwCl[t % 100]? = some (C, T, N)) (hw : Cond.classLink own idx C ∈ wsL_law) (hd : decode cc pc = .ok (.checkcast idx, 3)) (k : X K E (pc + 3) lv (.ref a :: st) S g cells slots) : X K E pc lv (.ref a :: st) S g cells slots := by
  intro H locs ls h1 h2 h3 h4 h5 h6
  exact va_castS hK.1 hK.2.1 hK.2.2.2.1 (hK.2.2.2.2.1 _ hw) ((hK.2.2.2.2.2.1).1 _ _ ht.2).2 (xRecv hK.2.2.2.2.2.1 h1 hs ht.1 ht.2) hd (k H locs ls h1 h2 h3 h4 h5 h6)
theorem X_copyO (hK : xK K E own cc Lw nL rf rc rs rl) {idx a0 a n0 n1 t te : Nat} {sp dp n : Int} {C : String} {T : u_T} {N : Nat} (hw : Cond.methodLink own idx arraycopyName ∈ wsL_law ∧ Cond.native arraycopyName ∈ wsL_law ∧ Cond.static arraycopyName ∈ wsL_law ∧ Cond.initialized "java/lang/System" ∈ wsL_law) (hs0 : S a0 = some (t, n0)) (hs1 : S a = some (t, n1)) (ht : 10000 ≤ t ∧ t < 20000 ∧ t % 100 = 3) (hte : te < 10000 ∧ vwCl[te % 100]? = some (C, T, N)) (hcast : ∀ τ U, xWd τ U → va_Nw (.castable C "java/lang/Object") U) (hsl : ∀ k, xsl t k = (2, (te : Int), 0)) (hL : E.2.2.2.1 a = none ∨ (t, 0) ∈ Lw) (q1 : 0 ≤ sp ∧ 0 ≤ dp ∧ 0 ≤ n) (q2 : sp + n ≤ n0 ∧ dp + n ≤ n1) (q3 : n0 ≤ 2147483647 ∧ n1 ≤ 2147483647) (hr : 1 ≤ rf ∧ (st.map fun v => v.category).sum + (nativeFrameWords "java/lang/System" "arraycopy" 5 + 11) ≤ rl) (hd : decode cc pc = .ok (.invokestatic idx, 3)) (kk : ∀ g1 : xG, g1 = xrow g a (va_cpy (g a0) (g a) sp.toNat dp.toNat n.toNat) → X K E (pc + 3) lv st S g1 cells slots) : X K E pc lv (.int (iI n) :: .int (iI dp) :: .ref a :: .int (iI sp) :: .ref a0 :: st) S g cells slots := by
  intro H locs ls h1 h2 h3 h4 h5 h6
  intro T9 hT X9
  have hc0 := xat_a (h1 a0 t n0 hs0).2 ht.1 (Or.inl ht.2.1)
  have hc1 := xat_a (h1 a t n1 hs1).2 ht.1 (Or.inl ht.2.1)
  rw [ht.2.2] at hc0 hc1
  obtain ⟨-, k0, hk0, cm0, hkk0⟩ := ((hK.2.2.2.2.2.1).2 3 _ rfl).1 n0 (g a0)
  obtain ⟨-, k1, hk1, cm1, hkk1⟩ := ((hK.2.2.2.2.2.1).2 3 _ rfl).1 n1 (g a)
  have esp := iI_clamp q1.1 (z := sp) (by omega)
  have edp := iI_clamp q1.2.1 (z := dp) (by omega)
  have en := iI_clamp q1.2.2 (z := n) (by omega)
  have isp := iI_toInt (z := sp) (by omega) (by omega)
  have idp := iI_toInt (z := dp) (by omega) (by omega)
  have inn := iI_toInt (z := n) (by omega) (by omega)
  have n_ : ∀ z : Int, 0 ≤ z → z ≤ 2147483647 → ¬ iI z < 0 := fun z w1 w2 => by rw [← iI_0, iI_lt (by omega) (by omega)]; omega
  obtain ⟨vm', X', step⟩ := X9.arraycopy hK.1 hK.2.2.2.1 (hK.2.2.2.2.1 _ hw.1) (hK.2.2.2.2.1 _ hw.2.1) (hK.2.2.2.2.1 _ hw.2.2.1) (hK.2.2.2.2.1 _ hw.2.2.2) (src := a0) (dst := a) (cs := arrV (E.2.1 3) n0 (g a0)) (cd := arrV (E.2.1 3) n1 (g a)) (srcPos := iI sp) (destPos := iI dp) (n := iI n) (by rw [hT]; exact hc0) (by rw [hT]; exact hc1)
    (fun _ h => by cases h) (fun _ h => by cases h) (fun h => by cases h) (fun h => by cases h) hk0 hk1 hkk0 hkk1 rfl (n_ _ (by omega) (by omega)) (n_ _ (by omega) (by omega)) (n_ _ (by omega) (by omega))
    (by rw [isp, inn, arrV_size]; omega) (by rw [idp, inn, arrV_size]; omega)
    (fun vm₁ hal i hi => by
      rw [en] at hi
      rw [esp]
      have e : (arrV (E.2.1 3) n0 (g a0)).slots.getD (sp.toNat + i) .null = g a0 (sp.toNat + i) := by
        rw [Array.getD_eq_getD_getElem?, arrV_read _ _ (by omega)]
        rfl
      rw [e]
      have hv := h2 a0 t n0 hs0 (sp.toNat + i) (Or.inr (by omega))
      rw [hsl] at hv
      rcases hv with hv | ⟨y, n9, hv, hy⟩
      · rw [hv]; exact ⟨rfl, trivial⟩
      · rw [hv]
        obtain ⟨kA9, comp, r1, r2, r3, -⟩ := ((hK.2.2.2.2.2.1).2 3 _ rfl).2
        cases hk1.symm.trans r1
        cases hkk1.symm.trans r2
        obtain ⟨cellV, g1, g2, ⟨kC, hkC⟩, hasg⟩ := xany hK.2.2.2.2.2.1 h1 hy (by show (te : Int).toNat < _; simpa using hte.1) (by show vwCl[(te : Int).toNat % 100]? = _; simpa using hte.2) (hcast _ _ hK.2.2.2.2.2.2.2.1)
        obtain ⟨kE, hkE, -⟩ := Vm.findClass_spec r3
        obtain ⟨kC', hkC', -⟩ := hal.2.2 _ _ hkC
        obtain ⟨kE', hkE', -⟩ := hal.2.2 _ _ hkE
        refine ⟨rfl, cellV, (show T9.heap[y]? = some cellV by rw [hT]; exact g1), (fun q h => by rw [g2] at h; cases h), ⟨kC', hkC'⟩, ?_, ?_⟩
        · exact ⟨kE', hkE'⟩
        · show vm₁.assignable _ _ = true
          rw [hal.assignable]
          exact hasg _ r3)
    (g := F0 K.2.2.2.2.2.1 pc ls (.int (iI n) :: .int (iI dp) :: .ref a :: .int (iI sp) :: .ref a0 :: st)) rfl (by rw [(hK.2.2.1.trans ((hK.2.2.2.2.2.2.2.2.2.2.2.2.2.1).symm.trans h6.1.symm))]) (rest := st) rfl (by rw [hK.2.1]; exact hd) (by rw [hK.2.2.2.2.2.2.2.2.2.1]; exact hr.1) (by rw [hK.2.2.2.2.2.2.2.2.2.2.2.2.1]; show 2 * 0 + _ + _ ≤ _; have := hr.2; omega)
  have e1 : copied (arrV (E.2.1 3) n0 (g a0)) (arrV (E.2.1 3) n1 (g a)) (iI sp) (iI dp) (iI n) = arrV (E.2.1 3) n1 (va_cpy (g a0) (g a) sp.toNat dp.toNat n.toNat) := by
    have e9 := va_copied (fun z : Value => z) (E.2.1 3) (E.2.1 3) (n0 := n0) (n1 := n1) (sp := sp.toNat) (dp := dp.toNat) (n := n.toNat) (g a0) (g a) (by omega)
    show (arrV _ _ _).storeRun (iI dp).toNatClampNeg ((arrV _ _ _).stretch (iI sp).toNatClampNeg (iI n).toNatClampNeg) = _
    rw [esp, edp, en]
    exact e9
  rw [e1] at X' step
  have hl : a < H.size := (Array.getElem?_eq_some_iff.mp hc1).1
  have hheap : ((T9.setVm vm').setCell a (arrV (E.2.1 3) n1 (va_cpy (g a0) (g a) sp.toNat dp.toNat n.toNat))).heap = H.setIfInBounds a (arrV (E.2.1 3) n1 (va_cpy (g a0) (g a) sp.toNat dp.toNat n.toNat)) := by rw [← hT]; rfl
  have oq : ∀ q : Nat, q ≠ a → (H.setIfInBounds a (arrV (E.2.1 3) n1 (va_cpy (g a0) (g a) sp.toNat dp.toNat n.toNat)))[q]? = H[q]? := fun q hq => by simp [Array.getElem?_setIfInBounds, Ne.symm hq]
  have hb : E.2.2.1 ≤ a := by rcases (h1 a t n1 hs1).1 with h | h <;> omega
  obtain ⟨t9, a1, b1⟩ := kk _ rfl _ _ ls (by
      intro b t' n' hb'
      by_cases e : b = a
      · subst e
        rw [hs1] at hb'
        cases hb'
        refine ⟨Or.inl hb, ?_⟩
        rw [xrow_s]
        exact Or.inr ⟨ht.1, Or.inl ⟨ht.2.1, by rw [ht.2.2]; simp [Array.getElem?_setIfInBounds, hl]⟩⟩
      · refine ⟨(h1 b t' n' hb').1, ?_⟩
        rw [xrow_o e]
        exact (h1 b t' n' hb').2.kept (oq b e)) (by
      intro b t' n' hb' k hk
      by_cases e : b = a
      · subst e
        rw [hs1] at hb'
        cases hb'
        have hk : k < n1 := by omega
        rw [xrow_s]
        unfold va_cpy
        by_cases hin : dp.toNat ≤ k ∧ k < dp.toNat + n.toNat
        · rw [if_pos hin]
          have := h2 a0 t n0 hs0 (sp.toNat + (k - dp.toNat)) (Or.inr (by omega))
          rw [hsl] at this ⊢
          exact this
        · rw [if_neg hin]
          exact h2 b t n1 hs1 k (Or.inr hk)
      · rw [xrow_o e]
        exact h2 b t' n' hb' k hk) h3 (by
      intro b t' n' k hb' hk
      by_cases e : b = a
      · subst e
        rcases hL with hL | hL
        · rw [hL] at hb'; cases hb'
        · have hx := h3 _ _ hb'
          rw [hs1] at hx
          cases hx
          exact absurd (by rw [xky_a ht.1, hK.2.2.2.2.2.2.2.2.2.2.2.2.2.2]; exact hL) hk
      · rw [xrow_o e]
        exact h4 b t' n' k hb' hk) ⟨by simp; exact h5.1, fun q g1 g2 => by
      rw [oq q (fun e => g2 (by rw [e]; exact hb))]
      exact h5.2.1 q g1 g2, fun q hq => by
      rcases List.mem_append.mp hq with h | h
      · exact h5.2.2 q h
      · obtain ⟨z, -, hz⟩ := List.mem_map.mp h
        rw [← hz]
        exact hb⟩ h6 _ hheap X'
  exact ⟨t9, step t9 a1, b1⟩
end XL
