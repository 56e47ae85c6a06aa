def xset (S : xT) (q : Nat) (p : Nat × Nat) : xT := fun b => if b = q then some p else S b
def xrow (g : xG) (q : Nat) (f : Nat → Value) : xG := fun b => if b = q then f else g b
theorem xset_s (S : xT) (q : Nat) (p : Nat × Nat) : xset S q p q = some p := if_pos rfl
theorem xset_o {S : xT} {q b : Nat} {p : Nat × Nat} (h : b ≠ q) : xset S q p b = S b := if_neg h
theorem xrow_s (g : xG) (q : Nat) (f : Nat → Value) : xrow g q f q = f := if_pos rfl
theorem xrow_o {g : xG} {q b : Nat} {f : Nat → Value} (h : b ≠ q) : xrow g q f b = g b := if_neg h
theorem xset_le {S : xT} {q : Nat} {p : Nat × Nat} (h : S q = none) : xLe S (xset S q p) := by
  intro b r hb
  by_cases e : b = q
  · rw [e, h] at hb; cases hb
  · rw [xset_o e]; exact hb
theorem xW_new {S : xT} {g : xG} {q t n : Nat} {f : Nat → Value} (h : xW S g) (hq : S q = none) (hf : ∀ k, (t < 10000 ∨ k < n) → xok (xset S q (t, n)) (xsl t k) (f k)) : xW (xset S q (t, n)) (xrow g q f) := by
  intro b t' n' hb k hk
  by_cases e : b = q
  · subst e
    rw [xset_s] at hb
    cases hb
    rw [xrow_s]
    exact hf k hk
  · rw [xset_o e] at hb
    rw [xrow_o e]
    exact (h b t' n' hb k hk).mono (xset_le hq)
theorem xR_new {D : va_G} {kA : Nat → ClassId} {b0 : Nat} {S : xT} {g : xG} {H H1 : Heap} {q t n : Nat} {f : Nat → Value} (h : xR D kA b0 S g H) (hq : q = H.size) (hb : b0 ≤ q) (ho : ∀ a, a < q → H1[a]? = H[a]?) (he : xat D kA q t n f H1) : xR D kA b0 (xset S q (t, n)) (xrow g q f) H1 := by
  intro b t' n' hb'
  by_cases e : b = q
  · subst e
    rw [xset_s] at hb'
    cases hb'
    exact ⟨Or.inl hb, by rw [xrow_s]; exact he⟩
  · rw [xset_o e] at hb'
    refine ⟨(h b t' n' hb').1, ?_⟩
    rw [xrow_o e]
    have hl := (h b t' n' hb').2.lt
    exact (h b t' n' hb').2.kept (ho b (by omega))
theorem xfree {D : va_G} {kA : Nat → ClassId} {b0 : Nat} {S : xT} {g : xG} {H : Heap} (h : xR D kA b0 S g H) : S H.size = none := by
  cases hs : S H.size with
  | none => rfl
  | some p =>
    have hl := (h _ p.1 p.2 hs).2.lt
    omega
theorem xM_new {L : List (Nat × Nat)} {S0 : xT} {g0 g : xG} {q : Nat} {f : Nat → Value} (h : xM L S0 g0 g) (hq : S0 q = none) : xM L S0 g0 (xrow g q f) := by
  intro b t n k hb hk
  have e : b ≠ q := fun e => by rw [e, hq] at hb; cases hb
  rw [xrow_o e]
  exact h b t n k hb hk
section XN
variable {K : xCx} {E : xEn} {own : String} {cc : ByteArray} {Lw : List (Nat × Nat)} {nL rf rc rs rl : Nat} {pc : Nat} {lv : List (Nat × Value)} {st : List Value} {S : xT} {g : xG} {cells slots : Nat}
theorem X_newa (hK : xK K E own cc Lw nL rf rc rs rl) {atype : ArrayType} {ty : FieldType} {n : Int} (t i : Nat) (dv : Value) (hty : newarray.typeOf atype = ty) (hx : ∀ kA : Nat → ClassId, (xtys kA)[i]? = some (kA i, ty)) (hdv : defaultValue ty = dv) (ht : 10000 ≤ t ∧ t < 20000 ∧ t % 100 = i) (hw : Cond.arrayClass ty ∈ wsL_law) (hn : 0 ≤ n) (hb : n.toNat * componentBytes ty ≤ 536870912 ∧ n ≤ 2147483647) (hc : cells + 1 ≤ rc) (hs : slots + n.toNat ≤ rs) (hra : ∀ U cA, va_RA U cA ty → U.vm.findClass ("[" ++ ty.toString) = some cA) (hv : ∀ S1 k, xok S1 (xsl t k) dv) (hd : decode cc pc = .ok (.newarray atype, 2))
    (kk : ∀ (q : Nat) (S1 : xT) (g1 : xG), E.2.2.2.1 q = none → S q = none → S1 = xset S q (t, n.toNat) → g1 = xrow g q (fun _ => dv) → xLe S S1 → S1 q = some (t, n.toNat) → X K E (pc + 2) lv (.ref q :: st) S1 g1 (cells + 1) (slots + n.toNat)) : X K E pc lv (.int (iI n) :: st) S g cells slots := by
  intro H locs ls h1 h2 h3 h4 h5 h6
  subst hty
  have hq := xfree h1
  have hq0 : E.2.2.2.1 H.size = none := by
    cases h9 : E.2.2.2.1 H.size with
    | none => rfl
    | some p => rw [h3 _ _ h9] at hq; cases hq
  refine va_newaK hK.1 hK.2.1 (hK.2.2.2.2.1 _ hw) rfl hd rfl (by rw [← iI_0, iI_lt (by omega) (by omega)]; omega) (iI_clamp hn hb.2) hb.1 (by rw [hK.2.2.2.2.2.2.2.2.2.2.1]; exact hc) (by rw [hK.2.2.2.2.2.2.2.2.2.2.2.1]; exact hs) rfl fun H1 cA e1 z1 o1 hAr hNm => ?_
  have hcl : cA = E.2.1 i := by
    have h9 := hra _ _ ((hK.2.2.2.2.2.1).2 i _ (hx _)).2
    exact Option.some.inj (hNm.symm.trans h9)
  refine kk H.size _ _ hq0 hq rfl rfl (xset_le hq) (xset_s _ _ _) H1 locs ls (xR_new h1 rfl (Nat.le_trans hK.2.2.2.2.2.2.1 h5.1) (fun a ha => o1 a ha) (Or.inr ⟨ht.1, Or.inl ⟨ht.2.1, ?_⟩⟩)) (xW_new h2 hq (fun k _ => hv _ k)) (h3.tr (xset_le hq)) (xM_new h4 hq0) ⟨Nat.le_trans h5.1 (by omega), fun x w1 w2 => (o1 x (Nat.lt_of_lt_of_le w1 h5.1)).trans (h5.2.1 x w1 w2), h5.2.2⟩ h6
  rw [ht.2.2, ← hcl, ← hdv]
  exact e1
def xNw (own : String) (idx ci : Nat) (C : String) (T : u_T) (N : Nat) (tys : Nat → FieldType) (df : List Value) : Prop := ci < 100 ∧ vwCl[ci]? = some (C, T, N) ∧ (∀ w ∈ u_ws C T N, w ∈ wsL_law) ∧ (∀ j, j < N → parseFieldDescriptor (T j).2.2.1 = some (tys j)) ∧ (∀ j, j < N → defaultValue (tys j) = vp_V df j) ∧ Cond.classLink own idx C ∈ wsL_law ∧ Cond.instantiable C N ∈ wsL_law ∧ Cond.initialized C ∈ wsL_law
theorem X_new (hK : xK K E own cc Lw nL rf rc rs rl) {idx ci N : Nat} {C : String} {T : u_T} {tys : Nat → FieldType} {df : List Value} (hw : xNw own idx ci C T N tys df) (hc : cells + 1 ≤ rc) (hs : slots + N ≤ rs) (hd : decode cc pc = .ok (.new idx, 3))
    (kk : ∀ (q : Nat) (S1 : xT) (g1 : xG), E.2.2.2.1 q = none → S q = none → S1 = xset S q (5000 + ci, 0) → g1 = xrow g q (vp_V df) → xLe S S1 → S1 q = some (5000 + ci, 0) → X K E (pc + 3) lv (.ref q :: st) S1 g1 (cells + 1) (slots + N)) : X K E pc lv st S g cells slots := by
  intro H locs ls h1 h2 h3 h4 h5 h6
  obtain ⟨w0, w1, w2, w3, w4, w5, w6, w7⟩ := hw
  have hq := xfree h1
  have hq0 : E.2.2.2.1 H.size = none := by
    cases h9 : E.2.2.2.1 H.size with
    | none => rfl
    | some p => rw [h3 _ _ h9] at hq; cases hq
  have hKn := (hK.2.2.2.2.2.1).1 ci _ w1
  refine W.newcK hK.1 hK.2.1 hK.2.2.2.1 (hK.2.2.2.2.1 _ w5) (hK.2.2.2.2.1 _ w6) (hK.2.2.2.2.1 _ w7) rfl hd (by rw [hK.2.2.2.2.2.2.2.2.2.2.1]; exact hc) (by rw [hK.2.2.2.2.2.2.2.2.2.2.2.1]; exact hs) hKn.2.1 rfl fun H1 kC hkC e1 z1 o1 => ?_
  have hm : (5000 + ci) % 100 = ci := by omega
  have hsl : ∀ k, xsl (5000 + ci) k = (9, 0, 0) := by
    intro k
    unfold xsl
    rw [if_neg (by omega), if_pos (by omega)]
    have e9 : (5000 + ci) / 100 - 1 = 49 := by omega
    rw [e9]
    rfl
  refine kk H.size _ _ hq0 hq rfl rfl (xset_le hq) (xset_s _ _ _) H1 locs ls (xR_new h1 rfl (Nat.le_trans hK.2.2.2.2.2.2.1 h5.1) (fun a ha => o1 a ha) (Or.inl ⟨by omega, _, by rw [hm]; exact w1, ?_⟩)) (xW_new h2 hq (fun k _ => by rw [hsl]; trivial)) (h3.tr (xset_le hq)) (xM_new h4 hq0) ⟨Nat.le_trans h5.1 (by omega), fun x w1 w2 => (o1 x (Nat.lt_of_lt_of_le w1 h5.1)).trans (h5.2.1 x w1 w2), h5.2.2⟩ h6
  rw [hm]
  exact (u_born tys hK.2.2.2.2.1 w2 hKn hkC e1 w3).to w4
/-- an object that is made takes its own type, once its fields are of theirs -/
theorem X_seal {q ci : Nat} (hq0 : E.2.2.2.1 q = none) (hs : S q = some (5000 + ci, 0)) (hci : ci < 100) (hf : ∀ k, xok S (xsl ci k) (g q k)) (hno : ∀ a t n k, S a = some (t, n) → (t < 10000 ∨ k < n) → a ≠ q → ∀ c, xsl t k = c → (c.1 = 0 ∨ c.1 = 3 ∨ c.1 = 4 ∨ c.1 = 9) ∨ c.2.1 ≠ ((5000 + ci : Nat) : Int)) (hself : ∀ k, (xsl ci k).2.1 ≠ ((5000 + ci : Nat) : Int))
    (kk : ∀ S1 : xT, S1 = xset S q (ci, 0) → S1 q = some (ci, 0) → (∀ b, b ≠ q → S1 b = S b) → X K E pc lv st S1 g cells slots) : X K E pc lv st S g cells slots := by
  have up : ∀ (c : Nat × Int × Int) (v : Value), ((c.1 = 0 ∨ c.1 = 3 ∨ c.1 = 4 ∨ c.1 = 9) ∨ c.2.1 ≠ ((5000 + ci : Nat) : Int)) → (c.1 = 8 → True) → xok S c v → xok (xset S q (ci, 0)) c v := by
    intro c v hc _ hv
    obtain ⟨c0, c1, c2⟩ := c
    unfold xok at hv ⊢
    dsimp only at hv hc ⊢
    have key : ∀ (b : Nat) (p : Nat × Nat), S b = some p → p.1 ≠ 5000 + ci → xset S q (ci, 0) b = some p := by
      intro b p hb hp
      have e : b ≠ q := fun e => by rw [e, hs] at hb; cases hb; exact hp rfl
      rw [xset_o e]; exact hb
    split at hv <;> try exact hv
    · obtain ⟨b, e, hb⟩ := hv
      refine ⟨b, e, key b _ hb ?_⟩
      rcases hc with hc | hc
      · simp at hc
      · show c1.toNat ≠ _; intro e9; apply hc; omega
    · rcases hv with hv | ⟨b, n, e, hb⟩
      · exact Or.inl hv
      · refine Or.inr ⟨b, n, e, key b _ hb ?_⟩
        rcases hc with hc | hc
        · simp at hc
        · show c1.toNat ≠ _; intro e9; apply hc; omega
    · obtain ⟨b, n, e, hb⟩ := hv
      refine ⟨b, n, e, key b _ hb ?_⟩
      rcases hc with hc | hc
      · simp at hc
      · show c1.toNat ≠ _; intro e9; apply hc; omega
    · obtain ⟨b, n, e, hb⟩ := hv
      refine ⟨b, n, e, ?_⟩
      rcases hb with hb | hb
      · refine Or.inl (key b _ hb ?_)
        rcases hc with hc | hc
        · simp at hc
        · show c1.toNat ≠ _; intro e9; apply hc; omega
      · exact Or.inr (key b _ hb (by show 20003 ≠ _; omega))
  intro H locs ls h1 h2 h3 h4 h5 h6
  refine kk _ rfl (xset_s _ _ _) (fun b hb => xset_o hb) H locs ls ?_ ?_ ?_ h4 h5 h6
  · intro b t' n' hb'
    by_cases e : b = q
    · subst e
      rw [xset_s] at hb'
      cases hb'
      obtain ⟨w1, w2⟩ := h1 b _ _ hs
      refine ⟨by rcases w1 with w1 | w1 <;> omega, ?_⟩
      obtain ⟨r, g1, g2⟩ := xat_o w2 (by omega)
      have hm : (5000 + ci) % 100 = ci % 100 := by omega
      rw [hm] at g1 g2
      exact Or.inl ⟨by omega, r, g1, g2⟩
    · rw [xset_o e] at hb'
      exact h1 b t' n' hb'
  · intro b t' n' hb' k hk
    by_cases e : b = q
    · subst e
      rw [xset_s] at hb'
      cases hb'
      exact up _ _ (Or.inr (hself k)) (fun _ => trivial) (hf k)
    · rw [xset_o e] at hb'
      exact up _ _ (hno b t' n' k hb' hk e _ rfl) (fun _ => trivial) (h2 b t' n' hb' k hk)
  · intro b p hb
    have e : b ≠ q := fun e => by rw [e, hq0] at hb; cases hb
    rw [xset_o e]
    exact h3 b p hb
theorem X_putF (hK : xK K E own cc Lw nL rf rc rs rl) {a t n k idx : Nat} {ty : FieldType} {v : Value} (F : xF own idx t k ty true) (hdec : ∀ T N C, vwCl[t % 100]? = some (C, T, N) → (T k).1 = own) (hin : K.2.2.2.2.2.2.2.2.1.name = "<init>") (hs : S a = some (t, n)) (hL : E.2.2.2.1 a = none ∨ (t, k) ∈ Lw) (hv : xok S (xsl t k) v) (hn : narrow ty v = v) (hfit : fits ty v = true) (hd : decode cc pc = .ok (.putfield idx, 3)) (kk : ∀ g1 : xG, g1 = xup g a k v → X K E (pc + 3) lv st S g1 cells slots) : X K E pc lv (v :: .ref a :: st) S g cells slots := by
  intro H locs ls h1 h2 h3 h4 h5 h6
  obtain ⟨ht, C, T, N, tys, ref, hc, hin', hty, hnm, hk, hte, hfin, hl, hsm⟩ := F
  have hdecl := hdec T N C hc
  have hap := va_apart (own := own) hK.2.2.2.2.1 hin' tys hty hnm hK.2.2.2.2.2.1 hc
  obtain ⟨r, g1, cell, q1, q2, q3, q4⟩ := xat_o (h1 a t n hs).2 ht
  have hr : r = (C, T, N) := Option.some.inj (g1.symm.trans hc)
  subst hr
  obtain ⟨hS, hfc, kC, hkC, hkind⟩ := (hK.2.2.2.2.2.1).1 _ _ hc
  obtain ⟨cf, kf, fi, f, hi, hsl⟩ := hS k hk
  have hlay := hK.2.2.2.2.1 _ (hin' _ (u_in_lay hk))
  unfold u_lay at hlay
  rw [if_pos hfin] at hlay
  have hst := (u_facts hfc hkC (u_lays hK.2.2.2.2.1 hin' hk) hi).1
  have hd0 : parseFieldDescriptor (T k).2.2.1 = some ty := by rw [hty k hk, hte]
  have hcf : K.2.2.2.2.2.1.cls = cf := by
    obtain ⟨_, _, c', _, _, _, -, -, hf', -, -, -, hown2, -⟩ := Cond.laysFinal_spec hlay
    have e1 : c' = cf := by have := hi.symm.trans hf'; simp at this; exact this.1.symm
    rw [hdecl] at hown2
    rw [← e1]; exact Option.some.inj ((hK.2.2.2.1).symm.trans hown2)
  have h9 := u_fits hfc hkC hkind (Or.inr hlay) hi hd0 hn hfit
  have hsame : K.2.2.2.2.1.fieldFound? ref (T k).2.1 (T k).2.2.1 = some (cf, kf, fi, f) := by
    rcases hsm with e | e
    · rw [e]; exact hi
    · exact u_same (hK.2.2.2.2.1 _ e) _ hi
  have hb : E.2.2.1 ≤ a := by rcases (h1 a t n hs).1 with h | h <;> omega
  refine W.putFinK hK.1 hK.2.1 hK.2.2.2.1 (hK.2.2.2.2.1 _ hl) hsame hst hcf hin (by rw [q2]; exact h9) q1 q3 (by rw [hsl]; exact k2_hasslot (q4 k hk)) rfl rfl hd fun H' e1 e2 e3 => ?_
  rw [hsl] at e1 ⊢
  refine kk _ rfl H' _ ls (h1.up hs (Or.inl ⟨ht, _, hc, ⟨_, e1, q2, q3, t_set q4 hap hk v⟩⟩) e3) (h2.up hs hv) h3 ?_ (h5.put e2 e3 hb) h6
  intro b t' n' j hb' hj
  by_cases e : b = a ∧ j = k
  · obtain ⟨rfl, rfl⟩ := e
    rcases hL with hL | hL
    · rw [hL] at hb'; cases hb'
    · have hx := h3 _ _ hb'
      rw [hs] at hx
      cases hx
      exact absurd (by rw [xky_o ht, hK.2.2.2.2.2.2.2.2.2.2.2.2.2.2]; exact hL) hj
  · show (if b = a ∧ j = k then v else g b j) = _
    rw [if_neg e]
    exact h4 b t' n' j hb' hj
def xLI (own : String) (idx : Nat) (y : MethodName) (cy : ByteArray) (mx : Nat) (n : Nat) : Prop := ((Cond.methodLink own idx y ∈ wsL_law) ∨ (own, idx, y, "PaperBoys") ∈ nstL) ∧ Cond.instanceMethod y ∈ wsL_law ∧ Cond.initialized y.cls ∈ wsL_law ∧ Cond.code y cy mx none ∈ wsL_law ∧ y.name = "<init>" ∧ (y.cls ≠ "java/lang/invoke/MethodHandle" ∧ y.cls ≠ "java/lang/invoke/VarHandle" ∧ (parseMethodDescriptor y.desc).map (fun d => d.parameters.length) = some n)
theorem X_oinit (hK : xK K E own cc Lw nL rf rc rs rl) {idx a : Nat} (hw : Cond.methodLink own idx objectInit ∈ wsL_law ∧ Cond.instanceMethod objectInit ∈ wsL_law ∧ Cond.code objectInit ⟨#[0xb1]⟩ 1 none ∈ wsL_law) (hr : 1 ≤ rf ∧ (st.map fun v => v.category).sum + 12 ≤ rl) (hd : decode cc pc = .ok (.invokespecial idx, 3)) (k : X K E (pc + 3) lv st S g cells slots) : X K E pc lv (.ref a :: st) S g cells slots := by
  intro H locs ls h1 h2 h3 h4 h5 h6
  exact W.objInit hK.1 hK.2.1 hK.2.2.2.1 (hK.2.2.2.2.1 _ hw.1) (hK.2.2.2.2.1 _ hw.2.1) (hK.2.2.2.2.1 _ hw.2.2) rfl (h6.1.trans ((hK.2.2.2.2.2.2.2.2.2.2.2.2.2.1).trans hK.2.2.1.symm)) rfl hd (by rw [hK.2.2.2.2.2.2.2.2.2.1]; exact hr.1) (by rw [hK.2.2.2.2.2.2.2.2.2.2.2.2.1]; show 2 * 0 + _ + 12 ≤ _; have := hr.2; omega) (k H locs ls h1 h2 h3 h4 h5 h6)
end XN
