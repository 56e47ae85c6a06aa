theorem xs_k {g1 g : xG} {a k b j : Nat} {v : Value} (hg : g1 = xup g a k v) (h : j ≠ k) : g1 b j = g b j := by rw [hg]; exact xup_k h
theorem xs_a {g1 g : xG} {a k b j : Nat} {v : Value} (hg : g1 = xup g a k v) (h : b ≠ a) : g1 b j = g b j := by rw [hg]; exact xup_a h
theorem xs_s {g1 g : xG} {a k : Nat} {v : Value} (hg : g1 = xup g a k v) : g1 a k = v := by rw [hg]; exact xup_s g a k v
theorem xne {S : xT} {a b : Nat} {p q : Nat × Nat} (h : S a = some p) (h2 : S b = some q) (hn : p ≠ q) : a ≠ b := fun e => hn (Option.some.inj (h.symm.trans (e ▸ h2)))
theorem xM_up {L : List (Nat × Nat)} {S : xT} {g g' g1 : xG} {a t n k : Nat} {v : Value} (h : xM L S g g') (hg : g1 = xup g' a k v) (hs : S a = some (t, n)) (ht : t < 10000) (hk : (t, k) ∈ L) : xM L S g g1 := by
  rw [hg]; exact h.up hs (by rw [xky_o ht]; exact hk)
theorem xM_ua {L : List (Nat × Nat)} {S : xT} {g g' g1 : xG} {a t n k : Nat} {v : Value} (h : xM L S g g') (hg : g1 = xup g' a k v) (hs : S a = some (t, n)) (ht : 10000 ≤ t) (hk : (t, 0) ∈ L) : xM L S g g1 := by
  rw [hg]; exact h.up hs (by rw [xky_a ht]; exact hk)
theorem xinj {a b : Int} {g : xG} {p k : Nat} (h : g p k = .int (iI a)) (h2 : g p k = .int (iI b)) (ha : -2147483648 ≤ a ∧ a ≤ 2147483647) (hb : -2147483648 ≤ b ∧ b ≤ 2147483647) : a = b := (iI_eq ha hb).mp (Value.int.inj (h.symm.trans h2))
theorem xmulB {a b A B : Int} (h0 : 0 ≤ a) (h1 : a ≤ A) (h2 : 0 ≤ b) (h3 : b ≤ B) : 0 ≤ a * b ∧ a * b ≤ A * B := ⟨Int.mul_nonneg h0 h2, Int.mul_le_mul h1 h3 h2 (by omega)⟩
theorem xandB {a b z : Int} (e : iI a &&& iI b = iI z) (hz : -2147483648 ≤ z ∧ z ≤ 2147483647) (hb : 0 ≤ b ∧ b ≤ 2147483647) : 0 ≤ z ∧ z ≤ b := by
  have e1 : (iI z).toBitVec = (iI a).toBitVec &&& (iI b).toBitVec := by rw [← e]; rfl
  have nb : (iI b).toBitVec.toNat = b.toNat := by
    have h := iI_toInt (z := b) (by omega) (by omega)
    have h2 : (iI b).toBitVec.toInt = b := h
    rw [BitVec.toInt_eq_toNat_cond] at h2
    have := (iI b).toBitVec.isLt
    split at h2 <;> omega
  have le : (iI z).toBitVec.toNat ≤ b.toNat := by
    rw [e1, BitVec.toNat_and, nb]
    exact Nat.and_le_right
  have h := iI_toInt hz.1 hz.2
  have h2 : (iI z).toBitVec.toInt = z := h
  rw [BitVec.toInt_eq_toNat_cond] at h2
  split at h2 <;> omega
def xwk (g : xG) (b : Nat) (n : Int) : Prop := ∀ j : Int, 0 ≤ j → j < n → ∀ z : Int, -2147483648 ≤ z → z ≤ 2147483647 → g b j.toNat = .int (iI z) → z ≤ 3 ∨ z = 255
theorem xwk_0 {g : xG} {b : Nat} : xwk g b 0 := fun j h1 h2 => by omega
theorem xwk_s {g : xG} {b : Nat} {n z : Int} (h : xwk g b n) (e : g b n.toNat = .int (iI z)) (hz : -2147483648 ≤ z ∧ z ≤ 2147483647) (hw : z ≤ 3 ∨ z = 255) : xwk g b (n + 1) := by
  intro j q1 q2 w w1 w2 ew
  rcases (show j < n ∨ j = n by omega) with q | q
  · exact h j q1 q w w1 w2 ew
  · subst q
    rw [xinj ew e ⟨w1, w2⟩ hz]
    exact hw
theorem xwk_m {g : xG} {b : Nat} {n m : Int} (h : xwk g b n) (hm : m ≤ n) : xwk g b m := fun j q1 q2 => h j q1 (by omega)
section XM
variable {K : xCx} {E : xEn} {own : String} {cc : ByteArray} {Lw : List (Nat × Nat)} {nL rf rc rs rl : Nat} {pc : Nat} {lv : List (Nat × Value)} {st : List Value} {S : xT} {g : xG} {cells slots : Nat}
theorem X_know {a t n k : Nat} {lo hi : Int} (hs : S a = some (t, n)) (ht : t < 10000) (hc : xsl t k = (0, lo, hi)) (kk : ∀ z : Int, g a k = .int (iI z) → lo ≤ z → z ≤ hi → X K E pc lv st S g cells slots) : X K E pc lv st S g cells slots := by
  intro H locs ls h1 h2 h3 h4 h5 h6
  have h := h2 a t n hs k (Or.inl ht)
  rw [hc] at h
  obtain ⟨z, e, q1, q2⟩ := h
  exact kk z e q1 q2 H locs ls h1 h2 h3 h4 h5 h6
theorem X_knowr {a t n k : Nat} (τ q : Nat) (hs : S a = some (t, n)) (ht : t < 10000) (hc : xsl t k = (1, (τ : Int), (q : Int))) (kk : ∀ b : Nat, g a k = .ref b → S b = some (τ, q) → X K E pc lv st S g cells slots) : X K E pc lv st S g cells slots := by
  intro H locs ls h1 h2 h3 h4 h5 h6
  have h := h2 a t n hs k (Or.inl ht)
  rw [hc] at h
  obtain ⟨b, e, q1⟩ := h
  exact kk b e q1 H locs ls h1 h2 h3 h4 h5 h6
theorem X_ln {a : Int} (f : Int32 → List (Nat × Value)) (hl : lv = f (iI a)) (k : ∀ z : Int, -2147483648 ≤ z → z ≤ 2147483647 → X K E pc (f (iI z)) st S g cells slots) : X K E pc lv st S g cells slots := by
  obtain ⟨z, e, q1, q2⟩ := iI_any (iI a)
  rw [hl, e]
  exact k z q1 q2
theorem X_lq (lv' : List (Nat × Value)) (hl : lv = lv') (k : X K E pc lv' st S g cells slots) : X K E pc lv st S g cells slots := hl ▸ k
theorem X_st (st' : List Value) (h : st = st') (k : X K E pc lv st' S g cells slots) : X K E pc lv st S g cells slots := h ▸ k
theorem X_tableOut (hK : xK K E own cc Lw nL rf rc rs rl) {a dflt lo hi : Int} {offs : Array Int} {len : Nat} (tgt : Nat) (ha : -2147483648 ≤ a ∧ a ≤ 2147483647) (h : a < lo ∨ hi < a) (hd : decode cc pc = .ok (.tableswitch dflt lo hi offs, len)) (ht : (pc : Int) + dflt = (tgt : Int)) (k : X K E tgt lv st S g cells slots) : X K E pc lv (.int (iI a) :: st) S g cells slots :=
  fun H locs ls h1 h2 h3 h4 h5 h6 => lv_tableOut (tgt := tgt) hK.1 hK.2.1 hd (by rw [iI_toInt ha.1 ha.2]; exact h) ht (k H locs ls h1 h2 h3 h4 h5 h6)
theorem X_tableIn (hK : xK K E own cc Lw nL rf rc rs rl) {a dflt lo hi off : Int} {offs : Array Int} {len : Nat} (tgt : Nat) (n : Int) (hn : -2147483648 ≤ n ∧ n ≤ 2147483647) (e : a = n) (w1 : ¬ n < lo) (w2 : ¬ hi < n) (hd : decode cc pc = .ok (.tableswitch dflt lo hi offs, len)) (ho : offs[(n - lo).toNat]? = some off) (ht : (pc : Int) + off = (tgt : Int)) (k : X K E tgt lv st S g cells slots) : X K E pc lv (.int (iI a) :: st) S g cells slots := by
  subst e
  exact fun H locs ls h1 h2 h3 h4 h5 h6 => lv_tableIn (tgt := tgt) hK.1 hK.2.1 hd (by rw [iI_toInt hn.1 hn.2]; exact w1) (by rw [iI_toInt hn.1 hn.2]; exact w2) (by rw [iI_toInt hn.1 hn.2]; exact ho) ht (k H locs ls h1 h2 h3 h4 h5 h6)
theorem X_lookup (hK : xK K E own cc Lw nL rf rc rs rl) {a dflt off : Int} {ps : Array (Int × Int)} {len : Nat} (tgt : Nat) (ha : -2147483648 ≤ a ∧ a ≤ 2147483647) (hd : decode cc pc = .ok (.lookupswitch dflt ps, len)) (hp : (ps.toList.zip (ps.toList.drop 1)).all (fun (a, next) => a.1 < next.1) = true) (ho : Op.lookupswitch.offset ps.toList dflt a = off) (ht : (pc : Int) + off = (tgt : Int)) (k : X K E tgt lv st S g cells slots) : X K E pc lv (.int (iI a) :: st) S g cells slots :=
  fun H locs ls h1 h2 h3 h4 h5 h6 => lv_lookup (tgt := tgt) hK.1 hK.2.1 hd hp (by rw [iI_toInt ha.1 ha.2]; exact ho) ht (k H locs ls h1 h2 h3 h4 h5 h6)
theorem X_mmax (hK : xK K E own cc Lw nL rf rc rs rl) {a b : Int} {idx : Nat} (hl : Cond.methodLink own idx Lib.Math.max.name ∈ wsL_law ∧ Cond.static Lib.Math.max.name ∈ wsL_law ∧ Cond.initialized "java/lang/Math" ∈ wsL_law ∧ Cond.code Lib.Math.max.name Lib.Math.max.code 2 (some .int) ∈ wsL_law) (hr : 1 ≤ rf ∧ (st.map fun v => v.category).sum + 13 ≤ rl) (hrc : cells ≤ rc ∧ slots ≤ rs) (ha : -2147483648 ≤ a ∧ a ≤ 2147483647) (hb : -2147483648 ≤ b ∧ b ≤ 2147483647) (hd : decode cc pc = .ok (.invokestatic idx, 3)) (k : ∀ z : Int, (a ≤ b → z = b) → (b ≤ a → z = a) → X K E (pc + 3) lv (.int (iI z) :: st) S g cells slots) : X K E pc lv (.int (iI b) :: .int (iI a) :: st) S g cells slots := by
  intro H locs ls h1 h2 h3 h4 h5 h6
  refine va_mmax hK.1 hK.2.1 (hK.2.2.1.trans ((hK.2.2.2.2.2.2.2.2.2.2.2.2.2.1).symm.trans h6.1.symm)) hK.2.2.2.1 (hK.2.2.2.2.1 _ hl.1) (hK.2.2.2.2.1 _ hl.2.1) (hK.2.2.2.2.1 _ hl.2.2.1) (hK.2.2.2.2.1 _ hl.2.2.2) (by rw [hK.2.2.2.2.2.2.2.2.2.1]; exact hr.1) (by rw [hK.2.2.2.2.2.2.2.2.2.2.2.2.1]; exact hr.2) (by rw [hK.2.2.2.2.2.2.2.2.2.2.1]; exact hrc.1) (by rw [hK.2.2.2.2.2.2.2.2.2.2.2.1]; exact hrc.2) hd ?_
  by_cases h : iI a < iI b
  · rw [if_pos h]
    rw [iI_lt ha hb] at h
    exact k b (fun _ => by omega) (fun _ => by omega) H locs ls h1 h2 h3 h4 h5 h6
  · rw [if_neg h]
    rw [iI_lt ha hb] at h
    exact k a (fun _ => by omega) (fun _ => by omega) H locs ls h1 h2 h3 h4 h5 h6
theorem X_mmin (hK : xK K E own cc Lw nL rf rc rs rl) {a b : Int} {idx : Nat} (hl : Cond.methodLink own idx Lib.Math.min.name ∈ wsL_law ∧ Cond.static Lib.Math.min.name ∈ wsL_law ∧ Cond.initialized "java/lang/Math" ∈ wsL_law ∧ Cond.code Lib.Math.min.name Lib.Math.min.code 2 (some .int) ∈ wsL_law) (hr : 1 ≤ rf ∧ (st.map fun v => v.category).sum + 13 ≤ rl) (hrc : cells ≤ rc ∧ slots ≤ rs) (ha : -2147483648 ≤ a ∧ a ≤ 2147483647) (hb : -2147483648 ≤ b ∧ b ≤ 2147483647) (hd : decode cc pc = .ok (.invokestatic idx, 3)) (k : ∀ z : Int, (a ≤ b → z = a) → (b ≤ a → z = b) → X K E (pc + 3) lv (.int (iI z) :: st) S g cells slots) : X K E pc lv (.int (iI b) :: .int (iI a) :: st) S g cells slots := by
  intro H locs ls h1 h2 h3 h4 h5 h6
  refine va_mmin hK.1 hK.2.1 (hK.2.2.1.trans ((hK.2.2.2.2.2.2.2.2.2.2.2.2.2.1).symm.trans h6.1.symm)) hK.2.2.2.1 (hK.2.2.2.2.1 _ hl.1) (hK.2.2.2.2.1 _ hl.2.1) (hK.2.2.2.2.1 _ hl.2.2.1) (hK.2.2.2.2.1 _ hl.2.2.2) (by rw [hK.2.2.2.2.2.2.2.2.2.1]; exact hr.1) (by rw [hK.2.2.2.2.2.2.2.2.2.2.2.2.1]; exact hr.2) (by rw [hK.2.2.2.2.2.2.2.2.2.2.1]; exact hrc.1) (by rw [hK.2.2.2.2.2.2.2.2.2.2.2.1]; exact hrc.2) hd ?_
  by_cases h : iI b < iI a
  · rw [if_pos h]
    rw [iI_lt hb ha] at h
    exact k b (fun _ => by omega) (fun _ => by omega) H locs ls h1 h2 h3 h4 h5 h6
  · rw [if_neg h]
    rw [iI_lt hb ha] at h
    exact k a (fun _ => by omega) (fun _ => by omega) H locs ls h1 h2 h3 h4 h5 h6
end XM
