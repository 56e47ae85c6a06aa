def xF (own : String) (idx t k : Nat) (ty : FieldType) (fin : Bool) : Prop := t < 10000 ∧ ∃ (C : String) (T : u_T) (N : Nat) (tys : Nat → FieldType) (ref : String), vwCl[t % 100]? = some (C, T, N) ∧ (∀ w ∈ u_ws C T N, w ∈ wsL_law) ∧ (∀ j, j < N → parseFieldDescriptor (T j).2.2.1 = some (tys j)) ∧ (∀ a, a < N → ∀ b, b < N → a ≠ b → (T a).2.1 ≠ (T b).2.1) ∧ k < N ∧ tys k = ty ∧ (T k).2.2.2 = fin ∧ Cond.fieldLink own idx ref (T k).2.1 (T k).2.2.1 ∈ wsL_law ∧ (ref = (T k).1 ∨ Cond.sameField ref (T k).1 (T k).2.1 (T k).2.2.1 ∈ wsL_law)
theorem xat_o {D : va_G} {kA : Nat → ClassId} {a t n : Nat} {f : Nat → Value} {H : Heap} (h : xat D kA a t n f H) (ht : t < 10000) : ∃ r : vw_C, vwCl[t % 100]? = some r ∧ t_OB a (D.1 (t % 100)) r.2.2 (D.2 (t % 100)) H f := by
  rcases h with ⟨-, h⟩ | ⟨h, -⟩
  · exact h
  · omega
theorem xat_a {D : va_G} {kA : Nat → ClassId} {a t n : Nat} {f : Nat → Value} {H : Heap} (h : xat D kA a t n f H) (ht : 10000 ≤ t) (h2 : t < 20000 ∨ n ≠ 0) : H[a]? = some (arrV (kA (t % 100)) n f) := by
  rcases h with ⟨h, -⟩ | ⟨-, ⟨-, h⟩ | ⟨h3, h4, -⟩⟩
  · omega
  · exact h
  · omega
theorem xR.up {D : va_G} {kA : Nat → ClassId} {b0 : Nat} {S : xT} {g : xG} {H H1 : Heap} {a t n k : Nat} {v : Value} (h : xR D kA b0 S g H) (hs : S a = some (t, n)) (he : xat D kA a t n (updV (g a) k v) H1) (oq : ∀ q, q ≠ a → H1[q]? = H[q]?) : xR D kA b0 S (xup g a k v) H1 := by
  intro b t' n' hb
  by_cases e : b = a
  · subst e
    rw [hs] at hb
    cases hb
    exact ⟨(h b t n hs).1, by rw [xup_row]; exact he⟩
  · refine ⟨(h b t' n' hb).1, ?_⟩
    rw [xup_off e]
    exact (h b t' n' hb).2.kept (oq b e)
theorem xky_a {t : Nat} (h : 10000 ≤ t) (k : Nat) : xky t k = (t, 0) := if_neg (by omega)
theorem xky_o {t : Nat} (h : t < 10000) (k : Nat) : xky t k = (t, k) := if_pos h
section XH
variable {K : xCx} {E : xEn} {own : String} {cc : ByteArray} {Lw : List (Nat × Nat)} {nL rf rc rs rl : Nat} {pc : Nat} {lv : List (Nat × Value)} {st : List Value} {S : xT} {g : xG} {cells slots : Nat}
theorem X_getv (hK : xK K E own cc Lw nL rf rc rs rl) {a t n k idx : Nat} {ty : FieldType} {fin : Bool} (F : xF own idx t k ty fin) (hs : S a = some (t, n)) (hd : decode cc pc = .ok (.getfield idx, 3)) (kk : xok S (xsl t k) (g a k) → X K E (pc + 3) lv (g a k :: st) S g cells slots) : X K E pc lv (.ref a :: st) S g cells slots := by
  intro H locs ls h1 h2 h3 h4 h5 h6
  obtain ⟨ht, C, T, N, tys, ref, hc, hin, hty, hnm, hk, -, -, hl, hsm⟩ := F
  obtain ⟨r, g1, cell, q1, q2, q3, q4⟩ := xat_o (h1 a t n hs).2 ht
  have hr : r = (C, T, N) := Option.some.inj (g1.symm.trans hc)
  subst hr
  obtain ⟨hS, hfc, kC, hkC, hkind⟩ := (hK.2.2.2.2.2.1).1 _ _ hc
  obtain ⟨cf, kf, fi, f, hi, hsl⟩ := hS k hk
  have hsame : K.2.2.2.2.1.fieldFound? ref (T k).2.1 (T k).2.2.1 = some (cf, kf, fi, f) := by
    rcases hsm with e | e
    · rw [e]; exact hi
    · exact u_same (hK.2.2.2.2.1 _ e) _ hi
  exact W.getf hK.1 hK.2.1 hK.2.2.2.1 (hK.2.2.2.2.1 _ hl) hsame (u_facts hfc hkC (u_lays hK.2.2.2.2.1 hin hk) hi).1 q1 (by rw [q3]; exact fun h => by cases h) (v := g a k) (by rw [hsl, q4 k hk]) rfl rfl hd (kk (h2 a t n hs k (Or.inl ht)) H locs ls h1 h2 h3 h4 h5 h6)
theorem X_geti (hK : xK K E own cc Lw nL rf rc rs rl) {a t n k idx : Nat} {ty : FieldType} {fin : Bool} {lo hi : Int} (F : xF own idx t k ty fin) (hs : S a = some (t, n)) (hc : xsl t k = (0, lo, hi)) (hd : decode cc pc = .ok (.getfield idx, 3)) (kk : ∀ z : Int, g a k = .int (iI z) → lo ≤ z → z ≤ hi → X K E (pc + 3) lv (.int (iI z) :: st) S g cells slots) : X K E pc lv (.ref a :: st) S g cells slots := by
  refine X_getv hK F hs hd (fun h => ?_)
  rw [hc] at h
  obtain ⟨z, e, q1, q2⟩ := h
  rw [e]
  exact kk z e q1 q2
theorem X_getr (hK : xK K E own cc Lw nL rf rc rs rl) {a t n k idx : Nat} {ty : FieldType} {fin : Bool} (τ q : Nat) (F : xF own idx t k ty fin) (hs : S a = some (t, n)) (hc : xsl t k = (1, (τ : Int), (q : Int))) (hd : decode cc pc = .ok (.getfield idx, 3)) (kk : ∀ b : Nat, g a k = .ref b → S b = some (τ, q) → X K E (pc + 3) lv (.ref b :: st) S g cells slots) : X K E pc lv (.ref a :: st) S g cells slots := by
  refine X_getv hK F hs hd (fun h => ?_)
  rw [hc] at h
  obtain ⟨b, e, q1⟩ := h
  rw [e]
  exact kk b e q1
theorem X_getw (hK : xK K E own cc Lw nL rf rc rs rl) {a t n k idx : Nat} {ty : FieldType} {fin : Bool} (τ : Nat) {q : Int} (F : xF own idx t k ty fin) (hs : S a = some (t, n)) (hc : xsl t k = (7, (τ : Int), q)) (hd : decode cc pc = .ok (.getfield idx, 3)) (kk : ∀ b m : Nat, g a k = .ref b → S b = some (τ, m) → X K E (pc + 3) lv (.ref b :: st) S g cells slots) : X K E pc lv (.ref a :: st) S g cells slots := by
  refine X_getv hK F hs hd (fun h => ?_)
  rw [hc] at h
  obtain ⟨b, m, e, q1⟩ := h
  rw [e]
  exact kk b m e q1
theorem X_getl (hK : xK K E own cc Lw nL rf rc rs rl) {a t n k idx : Nat} {ty : FieldType} {fin : Bool} {q r : Int} (F : xF own idx t k ty fin) (hs : S a = some (t, n)) (hc : xsl t k = (3, q, r)) (hd : decode cc pc = .ok (.getfield idx, 3)) (kk : ∀ y : Int64, g a k = .long y → X K E (pc + 3) lv (.long y :: st) S g cells slots) : X K E pc lv (.ref a :: st) S g cells slots := by
  refine X_getv hK F hs hd (fun h => ?_)
  rw [hc] at h
  obtain ⟨y, e⟩ := h
  rw [e]
  exact kk y e
theorem X_getK (hK : xK K E own cc Lw nL rf rc rs rl) {a t n k idx : Nat} {ty : FieldType} {fin : Bool} {v : Value} (F : xF own idx t k ty fin) (hs : S a = some (t, n)) (hv : g a k = v) (hd : decode cc pc = .ok (.getfield idx, 3)) (kk : X K E (pc + 3) lv (v :: st) S g cells slots) : X K E pc lv (.ref a :: st) S g cells slots :=
  X_getv hK F hs hd (fun _ => by rw [hv]; exact kk)
theorem X_putv (hK : xK K E own cc Lw nL rf rc rs rl) {a t n k idx : Nat} {ty : FieldType} {v : Value} (F : xF own idx t k ty false) (hs : S a = some (t, n)) (hL : (t, k) ∈ Lw) (hv : xok S (xsl t k) v) (hn : narrow ty v = v) (hfit : fits ty v = true) (hd : decode cc pc = .ok (.putfield idx, 3)) (kk : ∀ g1 : xG, g1 = xup g a k v → X K E (pc + 3) lv st S g1 cells slots) : X K E pc lv (v :: .ref a :: st) S g cells slots := by
  intro H locs ls h1 h2 h3 h4 h5 h6
  obtain ⟨ht, C, T, N, tys, ref, hc, hin, hty, hnm, hk, hte, hfin, hl, hsm⟩ := F
  have hap := va_apart (own := own) hK.2.2.2.2.1 hin tys hty hnm hK.2.2.2.2.2.1 hc
  obtain ⟨r, g1, cell, q1, q2, q3, q4⟩ := xat_o (h1 a t n hs).2 ht
  have hr : r = (C, T, N) := Option.some.inj (g1.symm.trans hc)
  subst hr
  obtain ⟨hS, hfc, kC, hkC, hkind⟩ := (hK.2.2.2.2.2.1).1 _ _ hc
  obtain ⟨cf, kf, fi, f, hi, hsl⟩ := hS k hk
  have hlay := hK.2.2.2.2.1 _ (hin _ (u_in_lay hk))
  unfold u_lay at hlay
  rw [if_neg (by rw [hfin]; decide)] at hlay
  have hst := (u_facts hfc hkC (u_lays hK.2.2.2.2.1 hin hk) hi).1
  have hd0 : parseFieldDescriptor (T k).2.2.1 = some ty := by rw [hty k hk, hte]
  have h9 := u_store hfc hkC hkind hlay hi hd0 hn hfit
  have hsame : K.2.2.2.2.1.fieldFound? ref (T k).2.1 (T k).2.2.1 = some (cf, kf, fi, f) := by
    rcases hsm with e | e
    · rw [e]; exact hi
    · exact u_same (hK.2.2.2.2.1 _ e) _ hi
  have hb : E.2.2.1 ≤ a := by rcases (h1 a t n hs).1 with h | h <;> omega
  refine W.putK hK.1 hK.2.1 (f := f) ⟨hK.2.2.2.1, hK.2.2.2.2.1 _ hl, ⟨_, _, _, hsame⟩, hst⟩ (by rw [q2]; exact h9) q1 q3 (by rw [hsl]; exact k2_hasslot (q4 k hk)) rfl rfl hd fun H' e1 e2 e3 => ?_
  rw [hsl] at e1 ⊢
  refine kk _ rfl H' _ ls (h1.up hs (Or.inl ⟨ht, _, hc, ⟨_, e1, q2, q3, t_set q4 hap hk v⟩⟩) e3) (h2.up hs hv) h3 ?_ (h5.put e2 e3 hb) h6
  intro b t' n' j hb' hj
  by_cases e : b = a ∧ j = k
  · obtain ⟨rfl, rfl⟩ := e
    have hx := h3 _ _ hb'
    rw [hs] at hx
    cases hx
    exact absurd (by rw [xky_o ht, hK.2.2.2.2.2.2.2.2.2.2.2.2.2.2]; exact hL) hj
  · show (if b = a ∧ j = k then v else g b j) = _
    rw [if_neg e]
    exact h4 b t' n' j hb' hj
theorem X_puti (hK : xK K E own cc Lw nL rf rc rs rl) {a t n k idx : Nat} {z lo hi : Int} (F : xF own idx t k .int false) (hs : S a = some (t, n)) (hL : (t, k) ∈ Lw) (hc : xsl t k = (0, lo, hi)) (q1 : lo ≤ z) (q2 : z ≤ hi) (hd : decode cc pc = .ok (.putfield idx, 3)) (kk : ∀ g1 : xG, g1 = xup g a k (.int (iI z)) → X K E (pc + 3) lv st S g1 cells slots) : X K E pc lv (.int (iI z) :: .ref a :: st) S g cells slots :=
  X_putv hK F hs hL (by rw [hc]; exact ⟨z, rfl, q1, q2⟩) rfl rfl hd kk
theorem b01 {z : Int} (q1 : 0 ≤ z) (q2 : z ≤ 1) : narrow .boolean (.int (iI z)) = .int (iI z) ∧ fits .boolean (.int (iI z)) = true := by
  rcases (show z = 0 ∨ z = 1 by omega) with rfl | rfl
  · exact ⟨rfl, rfl⟩
  · exact ⟨rfl, rfl⟩
theorem X_putz (hK : xK K E own cc Lw nL rf rc rs rl) {a t n k idx : Nat} {z : Int} (F : xF own idx t k .boolean false) (hs : S a = some (t, n)) (hL : (t, k) ∈ Lw) (hc : xsl t k = (0, 0, 1)) (q1 : 0 ≤ z) (q2 : z ≤ 1) (hd : decode cc pc = .ok (.putfield idx, 3)) (kk : ∀ g1 : xG, g1 = xup g a k (.int (iI z)) → X K E (pc + 3) lv st S g1 cells slots) : X K E pc lv (.int (iI z) :: .ref a :: st) S g cells slots :=
  X_putv hK F hs hL (by rw [hc]; exact ⟨z, rfl, q1, q2⟩) (b01 q1 q2).1 (b01 q1 q2).2 hd kk
theorem X_putr (hK : xK K E own cc Lw nL rf rc rs rl) {a t n k idx b : Nat} {C : String} (τ q : Nat) (F : xF own idx t k (.object C) false) (hs : S a = some (t, n)) (hL : (t, k) ∈ Lw) (hc : xsl t k = (1, (τ : Int), (q : Int))) (hb : S b = some (τ, q)) (hd : decode cc pc = .ok (.putfield idx, 3)) (kk : ∀ g1 : xG, g1 = xup g a k (.ref b) → X K E (pc + 3) lv st S g1 cells slots) : X K E pc lv (.ref b :: .ref a :: st) S g cells slots :=
  X_putv hK F hs hL (by rw [hc]; exact ⟨b, rfl, hb⟩) rfl rfl hd kk
theorem X_putw (hK : xK K E own cc Lw nL rf rc rs rl) {a t n k idx b m : Nat} {q : Int} {ty : FieldType} (τ : Nat) (F : xF own idx t k (.array ty) false) (hs : S a = some (t, n)) (hL : (t, k) ∈ Lw) (hc : xsl t k = (7, (τ : Int), q)) (hb : S b = some (τ, m)) (hd : decode cc pc = .ok (.putfield idx, 3)) (kk : ∀ g1 : xG, g1 = xup g a k (.ref b) → X K E (pc + 3) lv st S g1 cells slots) : X K E pc lv (.ref b :: .ref a :: st) S g cells slots :=
  X_putv hK F hs hL (by rw [hc]; exact ⟨b, m, rfl, hb⟩) rfl rfl hd kk
theorem X_putl (hK : xK K E own cc Lw nL rf rc rs rl) {a t n k idx : Nat} {y : Int64} {q r : Int} (F : xF own idx t k .long false) (hs : S a = some (t, n)) (hL : (t, k) ∈ Lw) (hc : xsl t k = (3, q, r)) (hd : decode cc pc = .ok (.putfield idx, 3)) (kk : ∀ g1 : xG, g1 = xup g a k (.long y) → X K E (pc + 3) lv st S g1 cells slots) : X K E pc lv (.long y :: .ref a :: st) S g cells slots :=
  X_putv hK F hs hL (by rw [hc]; exact ⟨y, rfl⟩) rfl rfl hd kk
theorem X_alen (hK : xK K E own cc Lw nL rf rc rs rl) {a t n i : Nat} {ty : FieldType} (hs : S a = some (t, n)) (ht : 10000 ≤ t) (hi : t % 100 = i) (hty : ∀ kA : Nat → ClassId, (xtys kA)[i]? = some (kA i, ty)) (hd : decode cc pc = .ok (.arraylength, 1)) (kk : X K E (pc + 1) lv (.int (iI (n : Int)) :: st) S g cells slots) : X K E pc lv (.ref a :: st) S g cells slots := by
  intro H locs ls h1 h2 h3 h4 h5 h6
  have ha := ((hK.2.2.2.2.2.1).2 i _ (hty _)).1 n (g a)
  rcases (h1 a t n hs).2 with ⟨h, -⟩ | ⟨-, ⟨-, hc⟩ | ⟨-, hn, cell, hc, hcl, hv, -, hsz⟩⟩
  · omega
  · rw [hi] at hc
    exact W.alen (n := iI (n : Int)) hK.1 hK.2.1 hc ha (by rw [arrV_size]; exact (Int32.ofInt_eq_ofNat (n := n)).symm) rfl rfl hd (kk H locs ls h1 h2 h3 h4 h5 h6)
  · subst hn
    rw [hi] at hcl
    obtain ⟨-, k9, hk9, cm9, hkk9⟩ := ha
    exact W.alen (n := iI ((0 : Nat) : Int)) hK.1 hK.2.1 hc ⟨hv, k9, by rw [hcl]; exact hk9, cm9, hkk9⟩ (hsz.trans (Int32.ofInt_eq_ofNat (n := 0)).symm) rfl rfl hd (kk H locs ls h1 h2 h3 h4 h5 h6)
theorem X_ialdv (hK : xK K E own cc Lw nL rf rc rs rl) {a t n : Nat} {j : Int} (hs : S a = some (t, n)) (ht : 10000 ≤ t ∧ t % 100 = 0 ∧ n ≤ 2147483647) (q1 : 0 ≤ j) (q2 : j < n) (hd : decode cc pc = .ok (.iaload, 1)) (kk : xok S (xsl t j.toNat) (g a j.toNat) → X K E (pc + 1) lv (g a j.toNat :: st) S g cells slots) : X K E pc lv (.int (iI j) :: .ref a :: st) S g cells slots := by
  intro H locs ls h1 h2 h3 h4 h5 h6
  have hc := xat_a (h1 a t n hs).2 ht.1 (Or.inr (by omega))
  rw [ht.2.1] at hc
  have ha := ((hK.2.2.2.2.2.1).2 0 _ rfl).1 n (g a)
  have hlt : j.toNat < n := by omega
  exact W.iald (v := g a j.toNat) hK.1 hK.2.1 hc ha (fun q => by cases q) (by rw [arrV_size]; exact iI_in q1 q2 ht.2.2) (by rw [iI_clamp q1 (by omega), arrV_read _ _ hlt]) rfl rfl hd (kk (h2 a t n hs _ (Or.inr hlt)) H locs ls h1 h2 h3 h4 h5 h6)
theorem X_zaldv (hK : xK K E own cc Lw nL rf rc rs rl) {a t n : Nat} {j : Int} (hs : S a = some (t, n)) (ht : 10000 ≤ t ∧ t % 100 = 1 ∧ n ≤ 2147483647) (q1 : 0 ≤ j) (q2 : j < n) (hd : decode cc pc = .ok (.baload, 1)) (kk : xok S (xsl t j.toNat) (g a j.toNat) → X K E (pc + 1) lv (g a j.toNat :: st) S g cells slots) : X K E pc lv (.int (iI j) :: .ref a :: st) S g cells slots := by
  intro H locs ls h1 h2 h3 h4 h5 h6
  have hc := xat_a (h1 a t n hs).2 ht.1 (Or.inr (by omega))
  rw [ht.2.1] at hc
  have ha := ((hK.2.2.2.2.2.1).2 1 _ rfl).1 n (g a)
  have hlt : j.toNat < n := by omega
  exact W.zald (v := g a j.toNat) hK.1 hK.2.1 hc ha (fun q => by cases q) (by rw [arrV_size]; exact iI_in q1 q2 ht.2.2) (by rw [iI_clamp q1 (by omega), arrV_read _ _ hlt]) rfl rfl hd (kk (h2 a t n hs _ (Or.inr hlt)) H locs ls h1 h2 h3 h4 h5 h6)
theorem X_laldv (hK : xK K E own cc Lw nL rf rc rs rl) {a t n : Nat} {j : Int} (hs : S a = some (t, n)) (ht : 10000 ≤ t ∧ t % 100 = 2 ∧ n ≤ 2147483647) (q1 : 0 ≤ j) (q2 : j < n) (hd : decode cc pc = .ok (.laload, 1)) (kk : xok S (xsl t j.toNat) (g a j.toNat) → X K E (pc + 1) lv (g a j.toNat :: st) S g cells slots) : X K E pc lv (.int (iI j) :: .ref a :: st) S g cells slots := by
  intro H locs ls h1 h2 h3 h4 h5 h6
  have hc := xat_a (h1 a t n hs).2 ht.1 (Or.inr (by omega))
  rw [ht.2.1] at hc
  have ha := ((hK.2.2.2.2.2.1).2 2 _ rfl).1 n (g a)
  have hlt : j.toNat < n := by omega
  exact W.lald (v := g a j.toNat) hK.1 hK.2.1 hc ha (fun q => by cases q) (by rw [arrV_size]; exact iI_in q1 q2 ht.2.2) (by rw [iI_clamp q1 (by omega), arrV_read _ _ hlt]) rfl rfl hd (kk (h2 a t n hs _ (Or.inr hlt)) H locs ls h1 h2 h3 h4 h5 h6)
theorem X_oaldv (hK : xK K E own cc Lw nL rf rc rs rl) {a t n : Nat} {j : Int} (hs : S a = some (t, n)) (ht : 10000 ≤ t ∧ t % 100 = 3 ∧ n ≤ 2147483647) (q1 : 0 ≤ j) (q2 : j < n) (hd : decode cc pc = .ok (.aaload, 1)) (kk : xok S (xsl t j.toNat) (g a j.toNat) → X K E (pc + 1) lv (g a j.toNat :: st) S g cells slots) : X K E pc lv (.int (iI j) :: .ref a :: st) S g cells slots := by
  intro H locs ls h1 h2 h3 h4 h5 h6
  have hc := xat_a (h1 a t n hs).2 ht.1 (Or.inr (by omega))
  rw [ht.2.1] at hc
  have ha := ((hK.2.2.2.2.2.1).2 3 _ rfl).1 n (g a)
  have hlt : j.toNat < n := by omega
  exact W.aald (v := g a j.toNat) hK.1 hK.2.1 hc ha rfl (fun q => by cases q) (by rw [arrV_size]; exact iI_in q1 q2 ht.2.2) (by rw [iI_clamp q1 (by omega), arrV_read _ _ hlt]) rfl rfl hd (kk (h2 a t n hs _ (Or.inr hlt)) H locs ls h1 h2 h3 h4 h5 h6)
theorem X_aaldv (hK : xK K E own cc Lw nL rf rc rs rl) {a t n : Nat} {j : Int} (hs : S a = some (t, n)) (ht : 10000 ≤ t ∧ t % 100 = 4 ∧ n ≤ 2147483647) (q1 : 0 ≤ j) (q2 : j < n) (hd : decode cc pc = .ok (.aaload, 1)) (kk : xok S (xsl t j.toNat) (g a j.toNat) → X K E (pc + 1) lv (g a j.toNat :: st) S g cells slots) : X K E pc lv (.int (iI j) :: .ref a :: st) S g cells slots := by
  intro H locs ls h1 h2 h3 h4 h5 h6
  have hc := xat_a (h1 a t n hs).2 ht.1 (Or.inr (by omega))
  rw [ht.2.1] at hc
  have ha := ((hK.2.2.2.2.2.1).2 4 _ rfl).1 n (g a)
  have hlt : j.toNat < n := by omega
  exact W.aald (v := g a j.toNat) hK.1 hK.2.1 hc ha rfl (fun q => by cases q) (by rw [arrV_size]; exact iI_in q1 q2 ht.2.2) (by rw [iI_clamp q1 (by omega), arrV_read _ _ hlt]) rfl rfl hd (kk (h2 a t n hs _ (Or.inr hlt)) H locs ls h1 h2 h3 h4 h5 h6)
theorem X_iald (hK : xK K E own cc Lw nL rf rc rs rl) {a t n : Nat} {j lo hi : Int} (hs : S a = some (t, n)) (ht : 10000 ≤ t ∧ t % 100 = 0 ∧ n ≤ 2147483647) (hc : ∀ k, xsl t k = (0, lo, hi)) (q1 : 0 ≤ j) (q2 : j < n) (hd : decode cc pc = .ok (.iaload, 1)) (kk : ∀ z : Int, g a j.toNat = .int (iI z) → lo ≤ z → z ≤ hi → X K E (pc + 1) lv (.int (iI z) :: st) S g cells slots) : X K E pc lv (.int (iI j) :: .ref a :: st) S g cells slots := by
  refine X_ialdv hK hs ht q1 q2 hd (fun h => ?_)
  rw [hc] at h
  obtain ⟨z, e, w1, w2⟩ := h
  rw [e]
  exact kk z e w1 w2
theorem X_zald (hK : xK K E own cc Lw nL rf rc rs rl) {a t n : Nat} {j lo hi : Int} (hs : S a = some (t, n)) (ht : 10000 ≤ t ∧ t % 100 = 1 ∧ n ≤ 2147483647) (hc : ∀ k, xsl t k = (0, lo, hi)) (q1 : 0 ≤ j) (q2 : j < n) (hd : decode cc pc = .ok (.baload, 1)) (kk : ∀ z : Int, g a j.toNat = .int (iI z) → lo ≤ z → z ≤ hi → X K E (pc + 1) lv (.int (iI z) :: st) S g cells slots) : X K E pc lv (.int (iI j) :: .ref a :: st) S g cells slots := by
  refine X_zaldv hK hs ht q1 q2 hd (fun h => ?_)
  rw [hc] at h
  obtain ⟨z, e, w1, w2⟩ := h
  rw [e]
  exact kk z e w1 w2
theorem X_iald4 (hK : xK K E own cc Lw nL rf rc rs rl) {a t n : Nat} {j q r : Int} (hs : S a = some (t, n)) (ht : 10000 ≤ t ∧ t % 100 = 0 ∧ n ≤ 2147483647) (hc : ∀ k, xsl t k = (4, q, r)) (q1 : 0 ≤ j) (q2 : j < n) (hd : decode cc pc = .ok (.iaload, 1)) (kk : ∀ z : Int, g a j.toNat = .int (iI z) → 0 ≤ z → z ≤ 2147483647 → z % 16 ≤ 14 → X K E (pc + 1) lv (.int (iI z) :: st) S g cells slots) : X K E pc lv (.int (iI j) :: .ref a :: st) S g cells slots := by
  refine X_ialdv hK hs ht q1 q2 hd (fun h => ?_)
  rw [hc] at h
  obtain ⟨z, e, w1, w2, w3⟩ := h
  rw [e]
  exact kk z e w1 w2 w3
theorem X_ialdK (hK : xK K E own cc Lw nL rf rc rs rl) {a t n : Nat} {j z : Int} (hs : S a = some (t, n)) (ht : 10000 ≤ t ∧ t % 100 = 0 ∧ n ≤ 2147483647) (q1 : 0 ≤ j) (q2 : j < n) (hv : g a j.toNat = .int (iI z)) (hd : decode cc pc = .ok (.iaload, 1)) (kk : X K E (pc + 1) lv (.int (iI z) :: st) S g cells slots) : X K E pc lv (.int (iI j) :: .ref a :: st) S g cells slots :=
  X_ialdv hK hs ht q1 q2 hd (fun _ => by rw [hv]; exact kk)
theorem X_aald (hK : xK K E own cc Lw nL rf rc rs rl) {a t n : Nat} {j : Int} (τ m : Nat) (hs : S a = some (t, n)) (ht : 10000 ≤ t ∧ t % 100 = 4 ∧ n ≤ 2147483647) (hc : ∀ k, xsl t k = (1, (τ : Int), (m : Int))) (q1 : 0 ≤ j) (q2 : j < n) (hd : decode cc pc = .ok (.aaload, 1)) (kk : ∀ b : Nat, g a j.toNat = .ref b → S b = some (τ, m) → X K E (pc + 1) lv (.ref b :: st) S g cells slots) : X K E pc lv (.int (iI j) :: .ref a :: st) S g cells slots := by
  refine X_aaldv hK hs ht q1 q2 hd (fun h => ?_)
  rw [hc] at h
  obtain ⟨b, e, w1⟩ := h
  rw [e]
  exact kk b e w1
theorem X_lald (hK : xK K E own cc Lw nL rf rc rs rl) {a t n : Nat} {j q r : Int} (hs : S a = some (t, n)) (ht : 10000 ≤ t ∧ t % 100 = 2 ∧ n ≤ 2147483647) (hc : ∀ k, xsl t k = (3, q, r)) (q1 : 0 ≤ j) (q2 : j < n) (hd : decode cc pc = .ok (.laload, 1)) (kk : ∀ y : Int64, X K E (pc + 1) lv (.long y :: st) S g cells slots) : X K E pc lv (.int (iI j) :: .ref a :: st) S g cells slots := by
  refine X_laldv hK hs ht q1 q2 hd (fun h => ?_)
  rw [hc] at h
  obtain ⟨y, e⟩ := h
  rw [e]
  exact kk y
theorem X_iastv (hK : xK K E own cc Lw nL rf rc rs rl) {a t n : Nat} {j : Int} {z : Int} (hs : S a = some (t, n)) (ht : 10000 ≤ t ∧ t < 20000 ∧ t % 100 = 0 ∧ n ≤ 2147483647) (hL : (t, 0) ∈ Lw) (q1 : 0 ≤ j) (q2 : j < n)  (hv : xok S (xsl t j.toNat) (.int (iI z))) (hd : decode cc pc = .ok (.iastore, 1)) (kk : ∀ g1 : xG, g1 = xup g a j.toNat (.int (iI z)) → X K E (pc + 1) lv st S g1 cells slots) : X K E pc lv (.int (iI z) :: .int (iI j) :: .ref a :: st) S g cells slots := by
  intro H locs ls h1 h2 h3 h4 h5 h6
  have hc := xat_a (h1 a t n hs).2 ht.1 (Or.inl ht.2.1)
  rw [ht.2.2.1] at hc
  have ha := ((hK.2.2.2.2.2.1).2 0 _ rfl).1 n (g a)
  have hlt : j.toNat < n := by omega
  have hb : E.2.2.1 ≤ a := by rcases (h1 a t n hs).1 with h | h <;> omega
  refine W.iast hK.1 hK.2.1 hc ha (fun q => by cases q) (by rw [arrV_size]; exact iI_in q1 q2 ht.2.2.2) rfl rfl hd fun H' e1 e2 e3 => ?_
  rw [iI_clamp q1 (by omega)] at e1 ⊢
  skip
  refine kk _ rfl H' _ ls (h1.up hs (Or.inr ⟨ht.1, Or.inl ⟨ht.2.1, by rw [ht.2.2.1, e1, arrV_store]⟩⟩) e3) (h2.up hs hv) h3 ?_ (h5.put e2 e3 hb) h6
  intro b t' n' k' hb' hj
  by_cases e : b = a ∧ k' = j.toNat
  · obtain ⟨rfl, rfl⟩ := e
    have hx := h3 _ _ hb'
    rw [hs] at hx
    cases hx
    exact absurd (by rw [xky_a ht.1, hK.2.2.2.2.2.2.2.2.2.2.2.2.2.2]; exact hL) hj
  · show (if b = a ∧ k' = j.toNat then (.int (iI z) : Value) else g b k') = _
    rw [if_neg e]
    exact h4 b t' n' k' hb' hj
theorem X_zastv (hK : xK K E own cc Lw nL rf rc rs rl) {a t n : Nat} {j : Int} {z : Int} (hs : S a = some (t, n)) (ht : 10000 ≤ t ∧ t < 20000 ∧ t % 100 = 1 ∧ n ≤ 2147483647) (hL : (t, 0) ∈ Lw) (q1 : 0 ≤ j) (q2 : j < n) (hn : narrow .boolean (.int (iI z)) = .int (iI z)) (hv : xok S (xsl t j.toNat) (.int (iI z))) (hd : decode cc pc = .ok (.bastore, 1)) (kk : ∀ g1 : xG, g1 = xup g a j.toNat (.int (iI z)) → X K E (pc + 1) lv st S g1 cells slots) : X K E pc lv (.int (iI z) :: .int (iI j) :: .ref a :: st) S g cells slots := by
  intro H locs ls h1 h2 h3 h4 h5 h6
  have hc := xat_a (h1 a t n hs).2 ht.1 (Or.inl ht.2.1)
  rw [ht.2.2.1] at hc
  have ha := ((hK.2.2.2.2.2.1).2 1 _ rfl).1 n (g a)
  have hlt : j.toNat < n := by omega
  have hb : E.2.2.1 ≤ a := by rcases (h1 a t n hs).1 with h | h <;> omega
  refine W.zast hK.1 hK.2.1 hc ha (fun q => by cases q) (by rw [arrV_size]; exact iI_in q1 q2 ht.2.2.2) rfl rfl hd fun H' e1 e2 e3 => ?_
  rw [iI_clamp q1 (by omega)] at e1 ⊢
  rw [hn] at e1
  refine kk _ rfl H' _ ls (h1.up hs (Or.inr ⟨ht.1, Or.inl ⟨ht.2.1, by rw [ht.2.2.1, e1, arrV_store]⟩⟩) e3) (h2.up hs hv) h3 ?_ (h5.put e2 e3 hb) h6
  intro b t' n' k' hb' hj
  by_cases e : b = a ∧ k' = j.toNat
  · obtain ⟨rfl, rfl⟩ := e
    have hx := h3 _ _ hb'
    rw [hs] at hx
    cases hx
    exact absurd (by rw [xky_a ht.1, hK.2.2.2.2.2.2.2.2.2.2.2.2.2.2]; exact hL) hj
  · show (if b = a ∧ k' = j.toNat then (.int (iI z) : Value) else g b k') = _
    rw [if_neg e]
    exact h4 b t' n' k' hb' hj
theorem X_lastv (hK : xK K E own cc Lw nL rf rc rs rl) {a t n : Nat} {j : Int} {y : Int64} (hs : S a = some (t, n)) (ht : 10000 ≤ t ∧ t < 20000 ∧ t % 100 = 2 ∧ n ≤ 2147483647) (hL : (t, 0) ∈ Lw) (q1 : 0 ≤ j) (q2 : j < n)  (hv : xok S (xsl t j.toNat) (.long y)) (hd : decode cc pc = .ok (.lastore, 1)) (kk : ∀ g1 : xG, g1 = xup g a j.toNat (.long y) → X K E (pc + 1) lv st S g1 cells slots) : X K E pc lv (.long y :: .int (iI j) :: .ref a :: st) S g cells slots := by
  intro H locs ls h1 h2 h3 h4 h5 h6
  have hc := xat_a (h1 a t n hs).2 ht.1 (Or.inl ht.2.1)
  rw [ht.2.2.1] at hc
  have ha := ((hK.2.2.2.2.2.1).2 2 _ rfl).1 n (g a)
  have hlt : j.toNat < n := by omega
  have hb : E.2.2.1 ≤ a := by rcases (h1 a t n hs).1 with h | h <;> omega
  refine W.last hK.1 hK.2.1 hc ha (fun q => by cases q) (by rw [arrV_size]; exact iI_in q1 q2 ht.2.2.2) rfl rfl hd fun H' e1 e2 e3 => ?_
  rw [iI_clamp q1 (by omega)] at e1 ⊢
  skip
  refine kk _ rfl H' _ ls (h1.up hs (Or.inr ⟨ht.1, Or.inl ⟨ht.2.1, by rw [ht.2.2.1, e1, arrV_store]⟩⟩) e3) (h2.up hs hv) h3 ?_ (h5.put e2 e3 hb) h6
  intro b t' n' k' hb' hj
  by_cases e : b = a ∧ k' = j.toNat
  · obtain ⟨rfl, rfl⟩ := e
    have hx := h3 _ _ hb'
    rw [hs] at hx
    cases hx
    exact absurd (by rw [xky_a ht.1, hK.2.2.2.2.2.2.2.2.2.2.2.2.2.2]; exact hL) hj
  · show (if b = a ∧ k' = j.toNat then (.long y : Value) else g b k') = _
    rw [if_neg e]
    exact h4 b t' n' k' hb' hj
theorem X_iast (hK : xK K E own cc Lw nL rf rc rs rl) {a t n : Nat} {j z lo hi : Int} (hs : S a = some (t, n)) (ht : 10000 ≤ t ∧ t < 20000 ∧ t % 100 = 0 ∧ n ≤ 2147483647) (hL : (t, 0) ∈ Lw) (hc : ∀ k, xsl t k = (0, lo, hi)) (q1 : 0 ≤ j) (q2 : j < n) (q3 : lo ≤ z) (q4 : z ≤ hi) (hd : decode cc pc = .ok (.iastore, 1)) (kk : ∀ g1 : xG, g1 = xup g a j.toNat (.int (iI z)) → X K E (pc + 1) lv st S g1 cells slots) : X K E pc lv (.int (iI z) :: .int (iI j) :: .ref a :: st) S g cells slots :=
  X_iastv hK hs ht hL q1 q2 (by rw [hc]; exact ⟨z, rfl, q3, q4⟩) hd kk
theorem X_iast4 (hK : xK K E own cc Lw nL rf rc rs rl) {a t n : Nat} {j z q r : Int} (hs : S a = some (t, n)) (ht : 10000 ≤ t ∧ t < 20000 ∧ t % 100 = 0 ∧ n ≤ 2147483647) (hL : (t, 0) ∈ Lw) (hc : ∀ k, xsl t k = (4, q, r)) (q1 : 0 ≤ j) (q2 : j < n) (q3 : 0 ≤ z) (q4 : z ≤ 2147483647) (q5 : z % 16 ≤ 14) (hd : decode cc pc = .ok (.iastore, 1)) (kk : ∀ g1 : xG, g1 = xup g a j.toNat (.int (iI z)) → X K E (pc + 1) lv st S g1 cells slots) : X K E pc lv (.int (iI z) :: .int (iI j) :: .ref a :: st) S g cells slots :=
  X_iastv hK hs ht hL q1 q2 (by rw [hc]; exact ⟨z, rfl, q3, q4, q5⟩) hd kk
theorem X_zast (hK : xK K E own cc Lw nL rf rc rs rl) {a t n : Nat} {j z : Int} (hs : S a = some (t, n)) (ht : 10000 ≤ t ∧ t < 20000 ∧ t % 100 = 1 ∧ n ≤ 2147483647) (hL : (t, 0) ∈ Lw) (hc : ∀ k, xsl t k = (0, 0, 1)) (q1 : 0 ≤ j) (q2 : j < n) (q3 : 0 ≤ z) (q4 : z ≤ 1) (hd : decode cc pc = .ok (.bastore, 1)) (kk : ∀ g1 : xG, g1 = xup g a j.toNat (.int (iI z)) → X K E (pc + 1) lv st S g1 cells slots) : X K E pc lv (.int (iI z) :: .int (iI j) :: .ref a :: st) S g cells slots :=
  X_zastv hK hs ht hL q1 q2 (b01 q3 q4).1 (by rw [hc]; exact ⟨z, rfl, q3, q4⟩) hd kk
theorem X_last (hK : xK K E own cc Lw nL rf rc rs rl) {a t n : Nat} {j q r : Int} {y : Int64} (hs : S a = some (t, n)) (ht : 10000 ≤ t ∧ t < 20000 ∧ t % 100 = 2 ∧ n ≤ 2147483647) (hL : (t, 0) ∈ Lw) (hc : ∀ k, xsl t k = (3, q, r)) (q1 : 0 ≤ j) (q2 : j < n) (hd : decode cc pc = .ok (.lastore, 1)) (kk : ∀ g1 : xG, g1 = xup g a j.toNat (.long y) → X K E (pc + 1) lv st S g1 cells slots) : X K E pc lv (.long y :: .int (iI j) :: .ref a :: st) S g cells slots :=
  X_lastv hK hs ht hL q1 q2 (by rw [hc]; exact ⟨y, rfl⟩) hd kk
end XH
