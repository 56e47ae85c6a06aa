abbrev xCx : Type := Program × Launch × Env × Room × State × MethodId × Array Value × List Frame × Method × Code × (State → Prop)
abbrev xEn : Type := va_G × (Nat → ClassId) × Nat × xT × xG × List (Nat × Nat) × Nat × (Nat → Nat)
def xW (S : xT) (g : xG) : Prop := ∀ a t n, S a = some (t, n) → ∀ k, (t < 10000 ∨ k < n) → xok S (xsl t k) (g a k)
theorem xW.up {S : xT} {g : xG} {a t n k : Nat} {v : Value} (h : xW S g) (hs : S a = some (t, n)) (hv : xok S (xsl t k) v) : xW S (xup g a k v) := by
  intro b t' n' hb j hj
  by_cases e : b = a ∧ j = k
  · obtain ⟨rfl, rfl⟩ := e
    rw [hs] at hb
    cases hb
    rw [xup_s]
    exact hv
  · show xok S (xsl t' j) (if b = a ∧ j = k then v else g b j)
    rw [if_neg e]
    exact h b t' n' hb j hj
def xK (K : xCx) (E : xEn) (own : String) (cc : ByteArray) (Lw : List (Nat × Nat)) (nL rf rc rs rl : Nat) : Prop :=
  K.1.tables.exec = Jvm.exec ∧ K.2.2.2.2.2.2.2.2.2.1.code = cc ∧ K.2.2.2.2.2.2.2.2.2.1.maxLocals = nL ∧ K.2.2.2.2.1.vm.findClass own = some K.2.2.2.2.2.1.cls ∧ (∀ w ∈ wsL_law, w.before K.2.2.2.2.2.2.1 K.2.2.2.2.1 = true) ∧ va_K E.1 vwCl (xtys E.2.1) K.2.2.2.2.1 ∧ E.2.2.1 ≤ K.2.2.2.2.1.heap.size ∧ xWd E.2.2.2.2.2.2.2 K.2.2.2.2.1 ∧ xSt E.2.2.2.2.2.2.2 (fun q => E.2.2.1 ≤ q) K.2.2.2.2.1 K.2.2.2.2.1.heap ∧ K.2.2.2.1.frames = rf ∧ K.2.2.2.1.cells = rc ∧ K.2.2.2.1.slots = rs ∧ K.2.2.2.1.locals = rl ∧ E.2.2.2.2.2.2.1 = nL ∧ E.2.2.2.2.2.1 = Lw
def X (K : xCx) (E : xEn) (pc : Nat) (lv : List (Nat × Value)) (st : List Value) (S : xT) (g : xG) (cells slots : Nat) : Prop :=
  ∀ (H : Heap) (locs : List Loc) (ls : Array Slot), xR E.1 E.2.1 E.2.2.1 S g H → xW S g → xLe E.2.2.2.1 S → xM E.2.2.2.2.2.1 E.2.2.2.1 E.2.2.2.2.1 g → va_S (fun q => E.2.2.1 ≤ q) K.2.2.2.2.1.heap H locs → lv_has ls E.2.2.2.2.2.2.1 lv →
    W K.1 K.2.1 K.2.2.1 K.2.2.2.1 K.2.2.2.2.1 K.2.2.2.2.2.1 K.2.2.2.2.2.2.1 K.2.2.2.2.2.2.2.1 K.2.2.2.2.2.2.2.2.1 K.2.2.2.2.2.2.2.2.2.1 H locs cells slots K.2.2.2.2.2.2.2.2.2.2 (F0 K.2.2.2.2.2.1 pc ls st)
section XR
variable {K : xCx} {E : xEn} {own : String} {cc : ByteArray} {Lw : List (Nat × Nat)} {nL rf rc rs rl : Nat} {pc : Nat} {lv : List (Nat × Value)} {st : List Value} {S : xT} {g : xG} {cells slots : Nat}
theorem X_iconst (hK : xK K E own cc Lw nL rf rc rs rl) {n : Int} (hd : decode cc pc = .ok (.iconst n, 1))  (k : X K E (pc + 1) lv (.int (iI n) :: st) S g cells slots) : X K E pc lv st S g cells slots :=
  fun H locs ls h1 h2 h3 h4 h5 h6 => lv_iconst hK.1 hK.2.1 hd rfl (k H locs ls h1 h2 h3 h4 h5 h6)
theorem X_bipush (hK : xK K E own cc Lw nL rf rc rs rl) {n : Int} (hd : decode cc pc = .ok (.bipush n, 2)) (hv : (Int8.ofInt n).toInt32 = iI n) (k : X K E (pc + 2) lv (.int (iI n) :: st) S g cells slots) : X K E pc lv st S g cells slots :=
  fun H locs ls h1 h2 h3 h4 h5 h6 => lv_bipush hK.1 hK.2.1 hd hv (k H locs ls h1 h2 h3 h4 h5 h6)
theorem X_sipush (hK : xK K E own cc Lw nL rf rc rs rl) {n : Int} (hd : decode cc pc = .ok (.sipush n, 3)) (hv : (Int16.ofInt n).toInt32 = iI n) (k : X K E (pc + 3) lv (.int (iI n) :: st) S g cells slots) : X K E pc lv st S g cells slots :=
  fun H locs ls h1 h2 h3 h4 h5 h6 => lv_sipush hK.1 hK.2.1 hd hv (k H locs ls h1 h2 h3 h4 h5 h6)
theorem X_ldc (hK : xK K E own cc Lw nL rf rc rs rl) {n : Int} {idx : Nat} {v : Int32} (hd : decode cc pc = .ok (.ldc idx, 2)) (hw : Cond.constant own idx v ∈ wsL_law) (hv : v = iI n) (k : X K E (pc + 2) lv (.int (iI n) :: st) S g cells slots) : X K E pc lv st S g cells slots :=
  fun H locs ls h1 h2 h3 h4 h5 h6 => lv_ldc hK.1 hK.2.1 hK.2.2.2.1 (hK.2.2.2.2.1 _ hw) hd (by rw [hv]; exact (k H locs ls h1 h2 h3 h4 h5 h6))
theorem X_ldcw (hK : xK K E own cc Lw nL rf rc rs rl) {n : Int} {idx : Nat} {v : Int32} (hd : decode cc pc = .ok (.ldc_w idx, 3)) (hw : Cond.constant own idx v ∈ wsL_law) (hv : v = iI n) (k : X K E (pc + 3) lv (.int (iI n) :: st) S g cells slots) : X K E pc lv st S g cells slots :=
  fun H locs ls h1 h2 h3 h4 h5 h6 => lv_ldcw hK.1 hK.2.1 hK.2.2.2.1 (hK.2.2.2.2.1 _ hw) hd (by rw [hv]; exact (k H locs ls h1 h2 h3 h4 h5 h6))
theorem X_lconst (hK : xK K E own cc Lw nL rf rc rs rl) {n : Fin 2} (hd : decode cc pc = .ok (.lconst n, 1))  (k : ∀ y : Int64, X K E (pc + 1) lv (.long y :: st) S g cells slots) : X K E pc lv st S g cells slots :=
  fun H locs ls h1 h2 h3 h4 h5 h6 => lv_lconst hK.1 hK.2.1 hd rfl (k _ H locs ls h1 h2 h3 h4 h5 h6)
theorem X_ldc2 (hK : xK K E own cc Lw nL rf rc rs rl) {idx : Nat} {v : Int64} (hd : decode cc pc = .ok (.ldc2_w idx, 3)) (hw : Cond.constantLong own idx v ∈ wsL_law) (k : ∀ y : Int64, X K E (pc + 3) lv (.long y :: st) S g cells slots) : X K E pc lv st S g cells slots :=
  fun H locs ls h1 h2 h3 h4 h5 h6 => lv_ldc2 hK.1 hK.2.1 hK.2.2.2.1 (hK.2.2.2.2.1 _ hw) hd (k _ H locs ls h1 h2 h3 h4 h5 h6)
theorem X_iloadn (hK : xK K E own cc Lw nL rf rc rs rl) {n : Fin 4} {i : Nat} {x : Int32} (q : Nat) (hd : decode cc pc = .ok (.iload_n n, 1)) (hi : (n : Nat) = i) (hl : lv[q]? = some (i, .int x)) (k : X K E (pc + 1) lv (.int x :: st) S g cells slots) : X K E pc lv st S g cells slots :=
  fun H locs ls h1 h2 h3 h4 h5 h6 => lv_iload_n hK.1 hK.2.1 hd hi (lv_at h6 q hl) (k H locs ls h1 h2 h3 h4 h5 h6)
theorem X_iload (hK : xK K E own cc Lw nL rf rc rs rl) {i : Nat} {x : Int32} (q : Nat) (hd : decode cc pc = .ok (.iload i, 2)) (hl : lv[q]? = some (i, .int x)) (k : X K E (pc + 2) lv (.int x :: st) S g cells slots) : X K E pc lv st S g cells slots :=
  fun H locs ls h1 h2 h3 h4 h5 h6 => lv_iload hK.1 hK.2.1 hd (lv_at h6 q hl) (k H locs ls h1 h2 h3 h4 h5 h6)
theorem X_istoren (hK : xK K E own cc Lw nL rf rc rs rl) {n : Fin 4} {i : Nat} {x : Int32} (lv' : List (Nat × Value)) (hd : decode cc pc = .ok (.istore_n n, 1)) (hi : (n : Nat) = i) (hn : i < nL) (hl : (i, Value.int x) :: lv.filter (fun q => !(q.1 == i) && !(q.1 + 1 == i && q.2.category == 2)) = lv') (k : X K E (pc + 1) lv' st S g cells slots) : X K E pc lv (.int x :: st) S g cells slots :=
  fun H locs ls h1 h2 h3 h4 h5 h6 => lv_istore_n hK.1 hK.2.1 hd hi h6 (by rw [hK.2.2.2.2.2.2.2.2.2.2.2.2.2.1]; exact hn) hl (fun ls' h' => k H locs ls' h1 h2 h3 h4 h5 h')
theorem X_istore (hK : xK K E own cc Lw nL rf rc rs rl) {i : Nat} {x : Int32} (lv' : List (Nat × Value)) (hd : decode cc pc = .ok (.istore i, 2)) (hn : i < nL) (hl : (i, Value.int x) :: lv.filter (fun q => !(q.1 == i) && !(q.1 + 1 == i && q.2.category == 2)) = lv') (k : X K E (pc + 2) lv' st S g cells slots) : X K E pc lv (.int x :: st) S g cells slots :=
  fun H locs ls h1 h2 h3 h4 h5 h6 => lv_istore hK.1 hK.2.1 hd h6 (by rw [hK.2.2.2.2.2.2.2.2.2.2.2.2.2.1]; exact hn) hl (fun ls' h' => k H locs ls' h1 h2 h3 h4 h5 h')
theorem X_aloadn (hK : xK K E own cc Lw nL rf rc rs rl) {n : Fin 4} {i : Nat} {x : Nat} (q : Nat) (hd : decode cc pc = .ok (.aload_n n, 1)) (hi : (n : Nat) = i) (hl : lv[q]? = some (i, .ref x)) (k : X K E (pc + 1) lv (.ref x :: st) S g cells slots) : X K E pc lv st S g cells slots :=
  fun H locs ls h1 h2 h3 h4 h5 h6 => lv_aload_n hK.1 hK.2.1 hd hi (lv_at h6 q hl) (k H locs ls h1 h2 h3 h4 h5 h6)
theorem X_aload (hK : xK K E own cc Lw nL rf rc rs rl) {i : Nat} {x : Nat} (q : Nat) (hd : decode cc pc = .ok (.aload i, 2)) (hl : lv[q]? = some (i, .ref x)) (k : X K E (pc + 2) lv (.ref x :: st) S g cells slots) : X K E pc lv st S g cells slots :=
  fun H locs ls h1 h2 h3 h4 h5 h6 => lv_aload hK.1 hK.2.1 hd (lv_at h6 q hl) (k H locs ls h1 h2 h3 h4 h5 h6)
theorem X_astoren (hK : xK K E own cc Lw nL rf rc rs rl) {n : Fin 4} {i : Nat} {x : Nat} (lv' : List (Nat × Value)) (hd : decode cc pc = .ok (.astore_n n, 1)) (hi : (n : Nat) = i) (hn : i < nL) (hl : (i, Value.ref x) :: lv.filter (fun q => !(q.1 == i) && !(q.1 + 1 == i && q.2.category == 2)) = lv') (k : X K E (pc + 1) lv' st S g cells slots) : X K E pc lv (.ref x :: st) S g cells slots :=
  fun H locs ls h1 h2 h3 h4 h5 h6 => lv_astore_n hK.1 hK.2.1 hd hi h6 (by rw [hK.2.2.2.2.2.2.2.2.2.2.2.2.2.1]; exact hn) hl (fun ls' h' => k H locs ls' h1 h2 h3 h4 h5 h')
theorem X_astore (hK : xK K E own cc Lw nL rf rc rs rl) {i : Nat} {x : Nat} (lv' : List (Nat × Value)) (hd : decode cc pc = .ok (.astore i, 2)) (hn : i < nL) (hl : (i, Value.ref x) :: lv.filter (fun q => !(q.1 == i) && !(q.1 + 1 == i && q.2.category == 2)) = lv') (k : X K E (pc + 2) lv' st S g cells slots) : X K E pc lv (.ref x :: st) S g cells slots :=
  fun H locs ls h1 h2 h3 h4 h5 h6 => lv_astore hK.1 hK.2.1 hd h6 (by rw [hK.2.2.2.2.2.2.2.2.2.2.2.2.2.1]; exact hn) hl (fun ls' h' => k H locs ls' h1 h2 h3 h4 h5 h')
theorem X_lloadn (hK : xK K E own cc Lw nL rf rc rs rl) {n : Fin 4} {i : Nat} {x : Int64} (q : Nat) (hd : decode cc pc = .ok (.lload_n n, 1)) (hi : (n : Nat) = i) (hl : lv[q]? = some (i, .long x)) (k : X K E (pc + 1) lv (.long x :: st) S g cells slots) : X K E pc lv st S g cells slots :=
  fun H locs ls h1 h2 h3 h4 h5 h6 => lv_lload_n hK.1 hK.2.1 hd hi (lv_at h6 q hl) (k H locs ls h1 h2 h3 h4 h5 h6)
theorem X_lload (hK : xK K E own cc Lw nL rf rc rs rl) {i : Nat} {x : Int64} (q : Nat) (hd : decode cc pc = .ok (.lload i, 2)) (hl : lv[q]? = some (i, .long x)) (k : X K E (pc + 2) lv (.long x :: st) S g cells slots) : X K E pc lv st S g cells slots :=
  fun H locs ls h1 h2 h3 h4 h5 h6 => lv_lload hK.1 hK.2.1 hd (lv_at h6 q hl) (k H locs ls h1 h2 h3 h4 h5 h6)
theorem X_lstore (hK : xK K E own cc Lw nL rf rc rs rl) {i : Nat} {x : Int64} (lv' : List (Nat × Value)) (hd : decode cc pc = .ok (.lstore i, 2)) (hn : i + 1 < nL) (hl : (i, Value.long x) :: lv.filter (fun q => !(q.1 == i) && (!(q.1 == i + 1) && !(q.1 + 1 == i && q.2.category == 2))) = lv') (k : X K E (pc + 2) lv' st S g cells slots) : X K E pc lv (.long x :: st) S g cells slots :=
  fun H locs ls h1 h2 h3 h4 h5 h6 => lv_lstore hK.1 hK.2.1 hd h6 (by rw [hK.2.2.2.2.2.2.2.2.2.2.2.2.2.1]; exact hn) hl (fun ls' h' => k H locs ls' h1 h2 h3 h4 h5 h')
theorem X_iinc (hK : xK K E own cc Lw nL rf rc rs rl) {i : Nat} {z n : Int} (q : Nat) (lv' : List (Nat × Value)) (hd : decode cc pc = .ok (.iinc i n, 3)) (hq : lv[q]? = some (i, .int (iI z))) (hn : i < nL) (hl : (i, Value.int (iI (z + n))) :: lv.filter (fun q => !(q.1 == i) && !(q.1 + 1 == i && q.2.category == 2)) = lv') (k : X K E (pc + 3) lv' st S g cells slots) : X K E pc lv st S g cells slots :=
  fun H locs ls h1 h2 h3 h4 h5 h6 => lv_iinc (v := iI (z + n)) hK.1 hK.2.1 hd h6 hq (iI_add z n) (by rw [hK.2.2.2.2.2.2.2.2.2.2.2.2.2.1]; exact hn) hl (fun ls' h' => k H locs ls' h1 h2 h3 h4 h5 h')
theorem X_iadd (hK : xK K E own cc Lw nL rf rc rs rl) {a b : Int} (hd : decode cc pc = .ok (.iadd, 1))  (k : X K E (pc + 1) lv (.int (iI (a + b)) :: st) S g cells slots) : X K E pc lv (.int (iI b) :: .int (iI a) :: st) S g cells slots :=
  fun H locs ls h1 h2 h3 h4 h5 h6 => lv_iadd hK.1 hK.2.1 hd (by rw [iI_add]; exact (k H locs ls h1 h2 h3 h4 h5 h6))
theorem X_isub (hK : xK K E own cc Lw nL rf rc rs rl) {a b : Int} (hd : decode cc pc = .ok (.isub, 1))  (k : X K E (pc + 1) lv (.int (iI (a - b)) :: st) S g cells slots) : X K E pc lv (.int (iI b) :: .int (iI a) :: st) S g cells slots :=
  fun H locs ls h1 h2 h3 h4 h5 h6 => lv_isub hK.1 hK.2.1 hd (by rw [iI_sub]; exact (k H locs ls h1 h2 h3 h4 h5 h6))
theorem X_imul (hK : xK K E own cc Lw nL rf rc rs rl) {a b : Int} (hd : decode cc pc = .ok (.imul, 1))  (k : X K E (pc + 1) lv (.int (iI (a * b)) :: st) S g cells slots) : X K E pc lv (.int (iI b) :: .int (iI a) :: st) S g cells slots :=
  fun H locs ls h1 h2 h3 h4 h5 h6 => lv_imul hK.1 hK.2.1 hd (by rw [iI_mul]; exact (k H locs ls h1 h2 h3 h4 h5 h6))
theorem X_ineg (hK : xK K E own cc Lw nL rf rc rs rl) {a : Int} (hd : decode cc pc = .ok (.ineg, 1))  (k : X K E (pc + 1) lv (.int (iI (-a)) :: st) S g cells slots) : X K E pc lv (.int (iI a) :: st) S g cells slots :=
  fun H locs ls h1 h2 h3 h4 h5 h6 => lv_ineg hK.1 hK.2.1 hd (by rw [iI_neg]; exact (k H locs ls h1 h2 h3 h4 h5 h6))
theorem X_norm {a : Int} (k : ∀ z : Int, iI z = iI a → -2147483648 ≤ z → z ≤ 2147483647 → X K E pc lv (.int (iI z) :: st) S g cells slots) : X K E pc lv (.int (iI a) :: st) S g cells slots := by
  obtain ⟨z, e, q1, q2⟩ := iI_any (iI a)
  rw [e]
  exact k z e.symm q1 q2
theorem X_anyi {x : Int32} (k : ∀ z : Int, x = iI z → -2147483648 ≤ z → z ≤ 2147483647 → X K E pc lv (.int (iI z) :: st) S g cells slots) : X K E pc lv (.int x :: st) S g cells slots := by
  obtain ⟨z, e, q1, q2⟩ := iI_any x
  rw [e]
  exact k z e q1 q2
theorem X_lv (lv' : List (Nat × Value)) (ks : List Nat) (hl : lv_pick lv ks = lv') (k : X K E pc lv' st S g cells slots) : X K E pc lv st S g cells slots :=
  fun H locs ls q1 q2 q3 q4 q5 q6 => k H locs ls q1 q2 q3 q4 q5 (lv_sub q6 ks hl)
theorem X_wt (k : xW S g → X K E pc lv st S g cells slots) : X K E pc lv st S g cells slots :=
  fun H locs ls q1 q2 q3 q4 q5 q6 => k q2 H locs ls q1 q2 q3 q4 q5 q6
theorem td_nn {a d : Int} (ha : 0 ≤ a) : a.tdiv d = a / d := Int.tdiv_eq_ediv_of_nonneg ha
theorem td_np {a d : Int} (ha : a ≤ 0) : a.tdiv d = -((-a) / d) := by
  have h : a.tdiv d = -((-a).tdiv d) := by rw [Int.neg_tdiv, Int.neg_neg]
  rw [h, Int.tdiv_eq_ediv_of_nonneg (by omega)]
theorem iI_div {a d : Int} (ha : -2147483648 ≤ a ∧ a ≤ 2147483647) (hd : 0 < d ∧ d ≤ 2147483647) : iI a / iI d = iI (a.tdiv d) := by
  rw [← Int32.toInt_inj, Int32.toInt_div_of_ne_right _ _ (fun h => by
    have h2 := congrArg Int32.toInt h
    rw [iI_toInt (by omega) (by omega)] at h2
    have h3 : (-1 : Int32).toInt = -1 := rfl
    omega), iI_toInt ha.1 ha.2, iI_toInt (by omega) hd.2]
  have hb := Int.natAbs_tdiv a d
  have hle : (a.tdiv d).natAbs ≤ a.natAbs := by rw [hb]; exact Nat.div_le_self _ _
  have hz : a.tdiv d ≤ 2147483647 := by
    rcases Int.lt_or_le a 0 with h | h
    · have e9 : a.tdiv d = -((-a) / d) := td_np (by omega)
      have e8 : 0 ≤ (-a) / d := Int.ediv_nonneg (by omega) (by omega)
      omega
    · omega
  rw [iI_toInt (by omega) hz]
theorem iI_ne0 {d : Int} (hd : 0 < d ∧ d ≤ 2147483647) : ¬ iI d = 0 := by
  rw [← iI_0, iI_eq (by omega) (by omega)]; omega
theorem X_idiv (hK : xK K E own cc Lw nL rf rc rs rl) {a d : Int} (ha : -2147483648 ≤ a ∧ a ≤ 2147483647) (hq : 0 < d ∧ d ≤ 2147483647) (hd : decode cc pc = .ok (.idiv, 1))  (k : ∀ z : Int, (0 ≤ a → z = a / d) → (a ≤ 0 → z = -((-a) / d)) → X K E (pc + 1) lv (.int (iI z) :: st) S g cells slots) : X K E pc lv (.int (iI d) :: .int (iI a) :: st) S g cells slots :=
  fun H locs ls h1 h2 h3 h4 h5 h6 => lv_idiv hK.1 hK.2.1 hd (iI_ne0 hq) (by rw [iI_div ha hq]; exact (k _ td_nn td_np H locs ls h1 h2 h3 h4 h5 h6))
theorem X_irem (hK : xK K E own cc Lw nL rf rc rs rl) {a d : Int} (ha : -2147483648 ≤ a ∧ a ≤ 2147483647) (hq : 0 < d ∧ d ≤ 2147483647) (hd : decode cc pc = .ok (.irem, 1))  (k : ∀ z w : Int, z = a - w * d → (0 ≤ a → w = a / d) → (a ≤ 0 → w = -((-a) / d)) → X K E (pc + 1) lv (.int (iI z) :: st) S g cells slots) : X K E pc lv (.int (iI d) :: .int (iI a) :: st) S g cells slots :=
  fun H locs ls h1 h2 h3 h4 h5 h6 => lv_irem hK.1 hK.2.1 hd (iI_ne0 hq) (by rw [iI_div ha hq, iI_mul, iI_sub]; exact (k _ _ rfl td_nn td_np H locs ls h1 h2 h3 h4 h5 h6))
theorem X_iand (hK : xK K E own cc Lw nL rf rc rs rl) {a b : Int} (hd : decode cc pc = .ok (.iand, 1)) (k : ∀ z : Int, iI a &&& iI b = iI z → -2147483648 ≤ z → z ≤ 2147483647 → X K E (pc + 1) lv (.int (iI z) :: st) S g cells slots) : X K E pc lv (.int (iI b) :: .int (iI a) :: st) S g cells slots := by
  intro H locs ls h1 h2 h3 h4 h5 h6
  obtain ⟨z, e9, q1, q2⟩ := iI_any (iI a &&& iI b)
  exact lv_iand hK.1 hK.2.1 hd (by rw [e9]; exact k z e9 q1 q2 H locs ls h1 h2 h3 h4 h5 h6)
theorem X_ior (hK : xK K E own cc Lw nL rf rc rs rl) {a b : Int} (hd : decode cc pc = .ok (.ior, 1)) (k : ∀ z : Int, iI a ||| iI b = iI z → -2147483648 ≤ z → z ≤ 2147483647 → X K E (pc + 1) lv (.int (iI z) :: st) S g cells slots) : X K E pc lv (.int (iI b) :: .int (iI a) :: st) S g cells slots := by
  intro H locs ls h1 h2 h3 h4 h5 h6
  obtain ⟨z, e9, q1, q2⟩ := iI_any (iI a ||| iI b)
  exact lv_ior hK.1 hK.2.1 hd (by rw [e9]; exact k z e9 q1 q2 H locs ls h1 h2 h3 h4 h5 h6)
theorem X_ixor (hK : xK K E own cc Lw nL rf rc rs rl) {a b : Int} (hd : decode cc pc = .ok (.ixor, 1)) (k : ∀ z : Int, iI a ^^^ iI b = iI z → -2147483648 ≤ z → z ≤ 2147483647 → X K E (pc + 1) lv (.int (iI z) :: st) S g cells slots) : X K E pc lv (.int (iI b) :: .int (iI a) :: st) S g cells slots := by
  intro H locs ls h1 h2 h3 h4 h5 h6
  obtain ⟨z, e9, q1, q2⟩ := iI_any (iI a ^^^ iI b)
  exact lv_ixor hK.1 hK.2.1 hd (by rw [e9]; exact k z e9 q1 q2 H locs ls h1 h2 h3 h4 h5 h6)
theorem X_ishl (hK : xK K E own cc Lw nL rf rc rs rl) {a b : Int} (hd : decode cc pc = .ok (.ishl, 1)) (k : ∀ z : Int, iI a <<< (iI b &&& 31) = iI z → -2147483648 ≤ z → z ≤ 2147483647 → X K E (pc + 1) lv (.int (iI z) :: st) S g cells slots) : X K E pc lv (.int (iI b) :: .int (iI a) :: st) S g cells slots := by
  intro H locs ls h1 h2 h3 h4 h5 h6
  obtain ⟨z, e9, q1, q2⟩ := iI_any (iI a <<< (iI b &&& 31))
  exact lv_ishl hK.1 hK.2.1 hd (by rw [e9]; exact k z e9 q1 q2 H locs ls h1 h2 h3 h4 h5 h6)
theorem X_ishr (hK : xK K E own cc Lw nL rf rc rs rl) {a b : Int} (hd : decode cc pc = .ok (.ishr, 1)) (k : ∀ z : Int, iI a >>> (iI b &&& 31) = iI z → -2147483648 ≤ z → z ≤ 2147483647 → X K E (pc + 1) lv (.int (iI z) :: st) S g cells slots) : X K E pc lv (.int (iI b) :: .int (iI a) :: st) S g cells slots := by
  intro H locs ls h1 h2 h3 h4 h5 h6
  obtain ⟨z, e9, q1, q2⟩ := iI_any (iI a >>> (iI b &&& 31))
  exact lv_ishr hK.1 hK.2.1 hd (by rw [e9]; exact k z e9 q1 q2 H locs ls h1 h2 h3 h4 h5 h6)
theorem X_iushr (hK : xK K E own cc Lw nL rf rc rs rl) {a b : Int} (hd : decode cc pc = .ok (.iushr, 1)) (k : ∀ z : Int, ((iI a).toUInt32 >>> ((iI b).toUInt32 &&& Int32.toUInt32 31)).toInt32 = iI z → -2147483648 ≤ z → z ≤ 2147483647 → X K E (pc + 1) lv (.int (iI z) :: st) S g cells slots) : X K E pc lv (.int (iI b) :: .int (iI a) :: st) S g cells slots := by
  intro H locs ls h1 h2 h3 h4 h5 h6
  obtain ⟨z, e9, q1, q2⟩ := iI_any (((iI a).toUInt32 >>> ((iI b).toUInt32 &&& Int32.toUInt32 31)).toInt32)
  exact lv_iushr hK.1 hK.2.1 hd e9 (k z e9 q1 q2 H locs ls h1 h2 h3 h4 h5 h6)
theorem X_ladd (hK : xK K E own cc Lw nL rf rc rs rl) {x y : Int64} (hd : decode cc pc = .ok (.ladd, 1))  (k : ∀ w : Int64, X K E (pc + 1) lv (.long w :: st) S g cells slots) : X K E pc lv (.long y :: .long x :: st) S g cells slots :=
  fun H locs ls h1 h2 h3 h4 h5 h6 => lv_ladd hK.1 hK.2.1 hd (k _ H locs ls h1 h2 h3 h4 h5 h6)
theorem X_lsub (hK : xK K E own cc Lw nL rf rc rs rl) {x y : Int64} (hd : decode cc pc = .ok (.lsub, 1))  (k : ∀ w : Int64, X K E (pc + 1) lv (.long w :: st) S g cells slots) : X K E pc lv (.long y :: .long x :: st) S g cells slots :=
  fun H locs ls h1 h2 h3 h4 h5 h6 => lv_lsub hK.1 hK.2.1 hd (k _ H locs ls h1 h2 h3 h4 h5 h6)
theorem X_lmul (hK : xK K E own cc Lw nL rf rc rs rl) {x y : Int64} (hd : decode cc pc = .ok (.lmul, 1))  (k : ∀ w : Int64, X K E (pc + 1) lv (.long w :: st) S g cells slots) : X K E pc lv (.long y :: .long x :: st) S g cells slots :=
  fun H locs ls h1 h2 h3 h4 h5 h6 => lv_lmul hK.1 hK.2.1 hd (k _ H locs ls h1 h2 h3 h4 h5 h6)
theorem X_land (hK : xK K E own cc Lw nL rf rc rs rl) {x y : Int64} (hd : decode cc pc = .ok (.land, 1))  (k : ∀ w : Int64, X K E (pc + 1) lv (.long w :: st) S g cells slots) : X K E pc lv (.long y :: .long x :: st) S g cells slots :=
  fun H locs ls h1 h2 h3 h4 h5 h6 => lv_land hK.1 hK.2.1 hd (k _ H locs ls h1 h2 h3 h4 h5 h6)
theorem X_lor (hK : xK K E own cc Lw nL rf rc rs rl) {x y : Int64} (hd : decode cc pc = .ok (.lor, 1))  (k : ∀ w : Int64, X K E (pc + 1) lv (.long w :: st) S g cells slots) : X K E pc lv (.long y :: .long x :: st) S g cells slots :=
  fun H locs ls h1 h2 h3 h4 h5 h6 => lv_lor hK.1 hK.2.1 hd (k _ H locs ls h1 h2 h3 h4 h5 h6)
theorem X_i2l (hK : xK K E own cc Lw nL rf rc rs rl) {x : Int32} (hd : decode cc pc = .ok (.i2l, 1))  (k : ∀ w : Int64, X K E (pc + 1) lv (.long w :: st) S g cells slots) : X K E pc lv (.int x :: st) S g cells slots :=
  fun H locs ls h1 h2 h3 h4 h5 h6 => lv_i2l hK.1 hK.2.1 hd rfl (k _ H locs ls h1 h2 h3 h4 h5 h6)
theorem X_lshl (hK : xK K E own cc Lw nL rf rc rs rl) {x : Int64} {y : Int32} (hd : decode cc pc = .ok (.lshl, 1))  (k : ∀ w : Int64, X K E (pc + 1) lv (.long w :: st) S g cells slots) : X K E pc lv (.int y :: .long x :: st) S g cells slots :=
  fun H locs ls h1 h2 h3 h4 h5 h6 => lv_lshl hK.1 hK.2.1 hd rfl (k _ H locs ls h1 h2 h3 h4 h5 h6)
theorem X_lushr (hK : xK K E own cc Lw nL rf rc rs rl) {x : Int64} {y : Int32} (hd : decode cc pc = .ok (.lushr, 1))  (k : ∀ w : Int64, X K E (pc + 1) lv (.long w :: st) S g cells slots) : X K E pc lv (.int y :: .long x :: st) S g cells slots :=
  fun H locs ls h1 h2 h3 h4 h5 h6 => lv_lushr hK.1 hK.2.1 hd rfl (k _ H locs ls h1 h2 h3 h4 h5 h6)
theorem X_lcmp (hK : xK K E own cc Lw nL rf rc rs rl) {x y : Int64} (hd : decode cc pc = .ok (.lcmp, 1)) (k : ∀ z : Int, -1 ≤ z → z ≤ 1 → X K E (pc + 1) lv (.int (iI z) :: st) S g cells slots) : X K E pc lv (.long y :: .long x :: st) S g cells slots := by
  intro H locs ls h1 h2 h3 h4 h5 h6
  refine W.lcmp hK.1 hK.2.1 hd ?_
  have h9 : lg_cmp x y = iI 1 ∨ lg_cmp x y = iI 0 ∨ lg_cmp x y = iI (-1) := by
    unfold lg_cmp
    split
    · exact Or.inl rfl
    · split
      · first | exact Or.inr (Or.inl rfl) | exact Or.inr (Or.inr rfl)
      · first | exact Or.inr (Or.inr rfl) | exact Or.inr (Or.inl rfl)
  rcases h9 with h9 | h9 | h9 <;> rw [h9]
  · exact k 1 (by decide) (by decide) H locs ls h1 h2 h3 h4 h5 h6
  · exact k 0 (by decide) (by decide) H locs ls h1 h2 h3 h4 h5 h6
  · exact k (-1) (by decide) (by decide) H locs ls h1 h2 h3 h4 h5 h6
theorem X_dup (hK : xK K E own cc Lw nL rf rc rs rl) {v : Value} (hd : decode cc pc = .ok (.dup, 1)) (hv : v.category = 1) (k : X K E (pc + 1) lv (v :: v :: st) S g cells slots) : X K E pc lv (v :: st) S g cells slots :=
  fun H locs ls h1 h2 h3 h4 h5 h6 => lv_dup hK.1 hK.2.1 hd hv (k H locs ls h1 h2 h3 h4 h5 h6)
theorem X_pop (hK : xK K E own cc Lw nL rf rc rs rl) {v : Value} (hd : decode cc pc = .ok (.pop, 1)) (hv : v.category = 1) (k : X K E (pc + 1) lv st S g cells slots) : X K E pc lv (v :: st) S g cells slots :=
  fun H locs ls h1 h2 h3 h4 h5 h6 => lv_pop hK.1 hK.2.1 hd hv (k H locs ls h1 h2 h3 h4 h5 h6)
theorem X_pop2 (hK : xK K E own cc Lw nL rf rc rs rl) {v : Value} (hd : decode cc pc = .ok (.pop2, 1)) (hv : v.category = 2) (k : X K E (pc + 1) lv st S g cells slots) : X K E pc lv (v :: st) S g cells slots :=
  fun H locs ls h1 h2 h3 h4 h5 h6 => lv_pop2_2 hK.1 hK.2.1 hd hv (k H locs ls h1 h2 h3 h4 h5 h6)
theorem X_dup2 (hK : xK K E own cc Lw nL rf rc rs rl) {v w : Value} (hd : decode cc pc = .ok (.dup2, 1)) (hv : v.category = 1) (hw : w.category = 1) (k : X K E (pc + 1) lv (v :: w :: v :: w :: st) S g cells slots) : X K E pc lv (v :: w :: st) S g cells slots :=
  fun H locs ls h1 h2 h3 h4 h5 h6 => lv_dup2_11 hK.1 hK.2.1 hd hv hw (k H locs ls h1 h2 h3 h4 h5 h6)
theorem X_icmp_eq (hK : xK K E own cc Lw nL rf rc rs rl) {a b : Int} {off : Int} (tgt : Nat) (ha : -2147483648 ≤ a ∧ a ≤ 2147483647) (hb : -2147483648 ≤ b ∧ b ≤ 2147483647) (hd : decode cc pc = .ok (.if_icmp .eq off, 3)) (ht : (pc : Int) + off = (tgt : Int)) (kt : a = b → X K E tgt lv st S g cells slots) (kf : a ≠ b → X K E (pc + 3) lv st S g cells slots) : X K E pc lv (.int (iI b) :: .int (iI a) :: st) S g cells slots :=
  fun H locs ls h1 h2 h3 h4 h5 h6 => lv_icmp_eq (tgt := tgt) hK.1 hK.2.1 hd ht (fun q => kt ((iI_eq (a := a) (b := b) ha hb).mp q) H locs ls h1 h2 h3 h4 h5 h6) (fun q => kf (fun w => q ((iI_eq (a := a) (b := b) ha hb).mpr w)) H locs ls h1 h2 h3 h4 h5 h6)
theorem X_if_eq (hK : xK K E own cc Lw nL rf rc rs rl) {a : Int} {off : Int} (tgt : Nat) (ha : -2147483648 ≤ a ∧ a ≤ 2147483647) (hd : decode cc pc = .ok (.ifCond .eq off, 3)) (ht : (pc : Int) + off = (tgt : Int)) (kt : a = 0 → X K E tgt lv st S g cells slots) (kf : a ≠ 0 → X K E (pc + 3) lv st S g cells slots) : X K E pc lv (.int (iI a) :: st) S g cells slots :=
  fun H locs ls h1 h2 h3 h4 h5 h6 => lv_if_eq (tgt := tgt) hK.1 hK.2.1 hd ht (fun q => kt ((iI_eq (a := a) (b := 0) ha (by decide)).mp q) H locs ls h1 h2 h3 h4 h5 h6) (fun q => kf (fun w => q ((iI_eq (a := a) (b := 0) ha (by decide)).mpr w)) H locs ls h1 h2 h3 h4 h5 h6)
theorem X_icmp_ne (hK : xK K E own cc Lw nL rf rc rs rl) {a b : Int} {off : Int} (tgt : Nat) (ha : -2147483648 ≤ a ∧ a ≤ 2147483647) (hb : -2147483648 ≤ b ∧ b ≤ 2147483647) (hd : decode cc pc = .ok (.if_icmp .ne off, 3)) (ht : (pc : Int) + off = (tgt : Int)) (kt : a ≠ b → X K E tgt lv st S g cells slots) (kf : a = b → X K E (pc + 3) lv st S g cells slots) : X K E pc lv (.int (iI b) :: .int (iI a) :: st) S g cells slots :=
  fun H locs ls h1 h2 h3 h4 h5 h6 => lv_icmp_ne (tgt := tgt) hK.1 hK.2.1 hd ht (fun q => kt (fun w => q ((iI_eq (a := a) (b := b) ha hb).mpr w)) H locs ls h1 h2 h3 h4 h5 h6) (fun q => kf ((iI_eq (a := a) (b := b) ha hb).mp q) H locs ls h1 h2 h3 h4 h5 h6)
theorem X_if_ne (hK : xK K E own cc Lw nL rf rc rs rl) {a : Int} {off : Int} (tgt : Nat) (ha : -2147483648 ≤ a ∧ a ≤ 2147483647) (hd : decode cc pc = .ok (.ifCond .ne off, 3)) (ht : (pc : Int) + off = (tgt : Int)) (kt : a ≠ 0 → X K E tgt lv st S g cells slots) (kf : a = 0 → X K E (pc + 3) lv st S g cells slots) : X K E pc lv (.int (iI a) :: st) S g cells slots :=
  fun H locs ls h1 h2 h3 h4 h5 h6 => lv_if_ne (tgt := tgt) hK.1 hK.2.1 hd ht (fun q => kt (fun w => q ((iI_eq (a := a) (b := 0) ha (by decide)).mpr w)) H locs ls h1 h2 h3 h4 h5 h6) (fun q => kf ((iI_eq (a := a) (b := 0) ha (by decide)).mp q) H locs ls h1 h2 h3 h4 h5 h6)
theorem X_icmp_lt (hK : xK K E own cc Lw nL rf rc rs rl) {a b : Int} {off : Int} (tgt : Nat) (ha : -2147483648 ≤ a ∧ a ≤ 2147483647) (hb : -2147483648 ≤ b ∧ b ≤ 2147483647) (hd : decode cc pc = .ok (.if_icmp .lt off, 3)) (ht : (pc : Int) + off = (tgt : Int)) (kt : a < b → X K E tgt lv st S g cells slots) (kf : b ≤ a → X K E (pc + 3) lv st S g cells slots) : X K E pc lv (.int (iI b) :: .int (iI a) :: st) S g cells slots :=
  fun H locs ls h1 h2 h3 h4 h5 h6 => lv_icmp_lt (tgt := tgt) hK.1 hK.2.1 hd ht (fun q => kt ((iI_lt (a := a) (b := b) ha hb).mp q) H locs ls h1 h2 h3 h4 h5 h6) (fun q => kf (by have w := mt (iI_lt (a := a) (b := b) ha hb).mpr q; omega) H locs ls h1 h2 h3 h4 h5 h6)
theorem X_if_lt (hK : xK K E own cc Lw nL rf rc rs rl) {a : Int} {off : Int} (tgt : Nat) (ha : -2147483648 ≤ a ∧ a ≤ 2147483647) (hd : decode cc pc = .ok (.ifCond .lt off, 3)) (ht : (pc : Int) + off = (tgt : Int)) (kt : a < 0 → X K E tgt lv st S g cells slots) (kf : 0 ≤ a → X K E (pc + 3) lv st S g cells slots) : X K E pc lv (.int (iI a) :: st) S g cells slots :=
  fun H locs ls h1 h2 h3 h4 h5 h6 => lv_if_lt (tgt := tgt) hK.1 hK.2.1 hd ht (fun q => kt ((iI_lt (a := a) (b := 0) ha (by decide)).mp q) H locs ls h1 h2 h3 h4 h5 h6) (fun q => kf (by have w := mt (iI_lt (a := a) (b := 0) ha (by decide)).mpr q; omega) H locs ls h1 h2 h3 h4 h5 h6)
theorem X_icmp_ge (hK : xK K E own cc Lw nL rf rc rs rl) {a b : Int} {off : Int} (tgt : Nat) (ha : -2147483648 ≤ a ∧ a ≤ 2147483647) (hb : -2147483648 ≤ b ∧ b ≤ 2147483647) (hd : decode cc pc = .ok (.if_icmp .ge off, 3)) (ht : (pc : Int) + off = (tgt : Int)) (kt : b ≤ a → X K E tgt lv st S g cells slots) (kf : a < b → X K E (pc + 3) lv st S g cells slots) : X K E pc lv (.int (iI b) :: .int (iI a) :: st) S g cells slots :=
  fun H locs ls h1 h2 h3 h4 h5 h6 => lv_icmp_ge (tgt := tgt) hK.1 hK.2.1 hd ht (fun q => kt ((iI_le (a := b) (b := a) hb ha).mp q) H locs ls h1 h2 h3 h4 h5 h6) (fun q => kf (by have w := mt (iI_le (a := b) (b := a) hb ha).mpr q; omega) H locs ls h1 h2 h3 h4 h5 h6)
theorem X_if_ge (hK : xK K E own cc Lw nL rf rc rs rl) {a : Int} {off : Int} (tgt : Nat) (ha : -2147483648 ≤ a ∧ a ≤ 2147483647) (hd : decode cc pc = .ok (.ifCond .ge off, 3)) (ht : (pc : Int) + off = (tgt : Int)) (kt : 0 ≤ a → X K E tgt lv st S g cells slots) (kf : a < 0 → X K E (pc + 3) lv st S g cells slots) : X K E pc lv (.int (iI a) :: st) S g cells slots :=
  fun H locs ls h1 h2 h3 h4 h5 h6 => lv_if_ge (tgt := tgt) hK.1 hK.2.1 hd ht (fun q => kt ((iI_le (a := 0) (b := a) (by decide) ha).mp q) H locs ls h1 h2 h3 h4 h5 h6) (fun q => kf (by have w := mt (iI_le (a := 0) (b := a) (by decide) ha).mpr q; omega) H locs ls h1 h2 h3 h4 h5 h6)
theorem X_icmp_gt (hK : xK K E own cc Lw nL rf rc rs rl) {a b : Int} {off : Int} (tgt : Nat) (ha : -2147483648 ≤ a ∧ a ≤ 2147483647) (hb : -2147483648 ≤ b ∧ b ≤ 2147483647) (hd : decode cc pc = .ok (.if_icmp .gt off, 3)) (ht : (pc : Int) + off = (tgt : Int)) (kt : b < a → X K E tgt lv st S g cells slots) (kf : a ≤ b → X K E (pc + 3) lv st S g cells slots) : X K E pc lv (.int (iI b) :: .int (iI a) :: st) S g cells slots :=
  fun H locs ls h1 h2 h3 h4 h5 h6 => lv_icmp_gt (tgt := tgt) hK.1 hK.2.1 hd ht (fun q => kt ((iI_lt (a := b) (b := a) hb ha).mp q) H locs ls h1 h2 h3 h4 h5 h6) (fun q => kf (by have w := mt (iI_lt (a := b) (b := a) hb ha).mpr q; omega) H locs ls h1 h2 h3 h4 h5 h6)
theorem X_if_gt (hK : xK K E own cc Lw nL rf rc rs rl) {a : Int} {off : Int} (tgt : Nat) (ha : -2147483648 ≤ a ∧ a ≤ 2147483647) (hd : decode cc pc = .ok (.ifCond .gt off, 3)) (ht : (pc : Int) + off = (tgt : Int)) (kt : 0 < a → X K E tgt lv st S g cells slots) (kf : a ≤ 0 → X K E (pc + 3) lv st S g cells slots) : X K E pc lv (.int (iI a) :: st) S g cells slots :=
  fun H locs ls h1 h2 h3 h4 h5 h6 => lv_if_gt (tgt := tgt) hK.1 hK.2.1 hd ht (fun q => kt ((iI_lt (a := 0) (b := a) (by decide) ha).mp q) H locs ls h1 h2 h3 h4 h5 h6) (fun q => kf (by have w := mt (iI_lt (a := 0) (b := a) (by decide) ha).mpr q; omega) H locs ls h1 h2 h3 h4 h5 h6)
theorem X_icmp_le (hK : xK K E own cc Lw nL rf rc rs rl) {a b : Int} {off : Int} (tgt : Nat) (ha : -2147483648 ≤ a ∧ a ≤ 2147483647) (hb : -2147483648 ≤ b ∧ b ≤ 2147483647) (hd : decode cc pc = .ok (.if_icmp .le off, 3)) (ht : (pc : Int) + off = (tgt : Int)) (kt : a ≤ b → X K E tgt lv st S g cells slots) (kf : b < a → X K E (pc + 3) lv st S g cells slots) : X K E pc lv (.int (iI b) :: .int (iI a) :: st) S g cells slots :=
  fun H locs ls h1 h2 h3 h4 h5 h6 => lv_icmp_le (tgt := tgt) hK.1 hK.2.1 hd ht (fun q => kt ((iI_le (a := a) (b := b) ha hb).mp q) H locs ls h1 h2 h3 h4 h5 h6) (fun q => kf (by have w := mt (iI_le (a := a) (b := b) ha hb).mpr q; omega) H locs ls h1 h2 h3 h4 h5 h6)
theorem X_if_le (hK : xK K E own cc Lw nL rf rc rs rl) {a : Int} {off : Int} (tgt : Nat) (ha : -2147483648 ≤ a ∧ a ≤ 2147483647) (hd : decode cc pc = .ok (.ifCond .le off, 3)) (ht : (pc : Int) + off = (tgt : Int)) (kt : a ≤ 0 → X K E tgt lv st S g cells slots) (kf : 0 < a → X K E (pc + 3) lv st S g cells slots) : X K E pc lv (.int (iI a) :: st) S g cells slots :=
  fun H locs ls h1 h2 h3 h4 h5 h6 => lv_if_le (tgt := tgt) hK.1 hK.2.1 hd ht (fun q => kt ((iI_le (a := a) (b := 0) ha (by decide)).mp q) H locs ls h1 h2 h3 h4 h5 h6) (fun q => kf (by have w := mt (iI_le (a := a) (b := 0) ha (by decide)).mpr q; omega) H locs ls h1 h2 h3 h4 h5 h6)
theorem X_goto (hK : xK K E own cc Lw nL rf rc rs rl) {off : Int} (tgt : Nat) (hd : decode cc pc = .ok (.goto off, 3)) (ht : (pc : Int) + off = (tgt : Int)) (k : X K E tgt lv st S g cells slots) : X K E pc lv st S g cells slots :=
  fun H locs ls h1 h2 h3 h4 h5 h6 => lv_goto (tgt := tgt) hK.1 hK.2.1 hd ht (k H locs ls h1 h2 h3 h4 h5 h6)
end XR
