def xPre (D : va_G) (kA : Nat → ClassId) (b0 : Nat) (t0 : Nat → Nat) (S : xT) (g : xG) (U : State) : Prop := xR D kA b0 S g U.heap ∧ xW S g ∧ va_K D vwCl (xtys kA) U ∧ b0 ≤ U.heap.size ∧ xWd t0 U ∧ xSt t0 (fun q => b0 ≤ q) U U.heap
def xQc (D : va_G) (kA : Nat → ClassId) (b0 : Nat) (L : List (Nat × Nat)) (S : xT) (g : xG) (post : Option Value → xT → xG → Prop) : Array Value → State → Outcome → State → Prop := fun _ st oc t =>
  (∃ (r : Option Value) (S1 : xT) (g1 : xG), oc = .returned r ∧ post r S1 g1 ∧ xLe S S1 ∧ xM L S g g1 ∧ xR D kA b0 S1 g1 t.heap ∧ xW S1 g1) ∧ va_F (fun q => b0 ≤ q) st t
def xMt (l : Launch) (y : MethodName) (cy : ByteArray) (mx : Nat) (ret : Option FieldType) (rf rc rs rl : Nat) (D : va_G) (kA : Nat → ClassId) (b0 : Nat) (t0 : Nat → Nat) (L : List (Nat × Nat)) (av : List Value) (S : xT) (g : xG) (post : Option Value → xT → xG → Prop) : Prop :=
  Met l y (Cond.code y cy mx ret :: wsL_law) ({ frames := rf, cells := rc, slots := rs, locals := rl }) (va_Pc av (fun U => xPre D kA b0 t0 S g U)) (xQc D kA b0 L S g post) rc rs (fun q => b0 ≤ q)
theorem xPre.blind {D : va_G} {kA : Nat → ClassId} {b0 : Nat} {t0 : Nat → Nat} {S : xT} {g : xG} {av : List Value} : FrameBlind (va_Pc av (fun U => xPre D kA b0 t0 S g U)) := by
  intro a U f mk q
  obtain ⟨q0, q1, q2, q3, q4, q5, q6⟩ := q
  exact ⟨q0, q1, q2, va_K.moved (u := U) (U := U.calling f mk a) (Vm.Alike.refl U.vm) q3, q4, xWd_same rfl q5, xSt.moved (u := U) (U := U.calling f mk a) (Vm.Alike.refl U.vm) q6⟩
section XC
variable {K : xCx} {E : xEn} {own : String} {cc : ByteArray} {Lw : List (Nat × Nat)} {nL rf rc rs rl : Nat} {pc : Nat} {lv : List (Nat × Value)} {st : List Value} {S : xT} {g : xG} {cells slots : Nat}
theorem xCall (hK : xK K E own cc Lw nL rf rc rs rl) {L1 : List (Nat × Nat)} {post : Option Value → xT → xG → Prop} {mc ms : Nat} {As rest : List Value} {a : Array Value}
    (hr : ∀ (H : Heap) (locs : List Loc) (ls : Array Slot), xR E.1 E.2.1 E.2.2.1 S g H → xW S g → va_S (fun q => E.2.2.1 ≤ q) K.2.2.2.2.1.heap H locs → lv_has ls E.2.2.2.2.2.2.1 lv → va_Run K.1 K.2.1 K.2.2.1 K.2.2.2.1 K.2.2.2.2.1 K.2.2.2.2.2.1 K.2.2.2.2.2.2.1 K.2.2.2.2.2.2.2.1 K.2.2.2.2.2.2.2.2.1 K.2.2.2.2.2.2.2.2.2.1 H locs cells slots mc ms (F0 K.2.2.2.2.2.1 pc ls st) rest (xQc E.1 E.2.1 E.2.2.1 L1 S g post a) (fun q => E.2.2.1 ≤ q)) (hL : ∀ q ∈ L1, q ∈ Lw)
    (kk : ∀ (r : Option Value) (S1 : xT) (g1 : xG), post r S1 g1 → xLe S S1 → xM L1 S g g1 → X K E (pc + 3) lv (r.toList ++ rest) S1 g1 (cells + mc) (slots + ms)) : X K E pc lv st S g cells slots := by
  intro H locs ls h1 h2 h3 h4 h5 h6
  intro T hT X
  obtain ⟨v, st₀, t, T', L, k0, X', hL', e1, e2, ⟨⟨r, S1, g1, hv, hp, hle, hm, hR1, hW1⟩, hz, hk⟩, st'⟩ := hr H locs ls h1 h2 h5 h6 T hT X
  cases hv
  rw [k0] at hz hk
  obtain ⟨t2, a1, b1⟩ := kk _ S1 g1 hp hle hm T'.heap (locs ++ L) ls (by rw [e1]; exact hR1) hW1 (h3.tr hle) (h4.tr h3 hm (by rw [hK.2.2.2.2.2.2.2.2.2.2.2.2.2.2]; exact hL)) ⟨Nat.le_trans h5.1 (by rw [e1]; exact hz), fun q w1 w2 => by rw [e1, hk q (Nat.lt_of_lt_of_le w1 h5.1) w2]; exact h5.2.1 q w1 w2, fun q hq => by
      rcases List.mem_append.mp hq with h | h
      · exact h5.2.2 q h
      · exact hL' q h⟩ h6 T' rfl X'
  exact ⟨t2, st' t2 a1, b1⟩
theorem xPreOf (hK : xK K E own cc Lw nL rf rc rs rl) {H : Heap} {locs : List Loc} (h1 : xR E.1 E.2.1 E.2.2.1 S g H) (h2 : xW S g) (h5 : va_S (fun q => E.2.2.1 ≤ q) K.2.2.2.2.1.heap H locs) (U : State) (hU : U.heap = H) (hW : K.2.2.2.2.1.WarmedH U.vm) : xPre E.1 E.2.1 E.2.2.1 E.2.2.2.2.2.2.2 S g U :=
  ⟨by rw [hU]; exact h1, h2, va_K.moved hW.alike hK.2.2.2.2.2.1, by rw [hU]; exact Nat.le_trans hK.2.2.2.2.2.2.1 h5.1, xWd_warm hW hK.2.2.2.2.2.2.2.1, by rw [hU]; exact ((hK.2.2.2.2.2.2.2.2.1).kept (H1 := H) (fun a ha hn => h5.2.1 a ha hn)).moved hW.alike⟩
def xLS (own : String) (idx : Nat) (y : MethodName) (cy : ByteArray) (mx : Nat) (ret : Option FieldType) (n : Nat) : Prop := Cond.methodLink own idx y ∈ wsL_law ∧ Cond.static y ∈ wsL_law ∧ Cond.initialized y.cls ∈ wsL_law ∧ Cond.code y cy mx ret ∈ wsL_law ∧ (y.cls ≠ "java/lang/invoke/MethodHandle" ∧ y.cls ≠ "java/lang/invoke/VarHandle" ∧ (parseMethodDescriptor y.desc).map (fun d => d.parameters.length) = some n)
def xLV (own : String) (idx : Nat) (y : MethodName) (cy : ByteArray) (mx : Nat) (ret : Option FieldType) (n : Nat) : Prop := Cond.methodLink own idx y ∈ wsL_law ∧ Cond.instanceMethod y ∈ wsL_law ∧ Cond.selects y.cls y y ∈ wsL_law ∧ Cond.initialized y.cls ∈ wsL_law ∧ Cond.code y cy mx ret ∈ wsL_law ∧ (y.cls ≠ "java/lang/invoke/MethodHandle" ∧ y.cls ≠ "java/lang/invoke/VarHandle" ∧ (parseMethodDescriptor y.desc).map (fun d => d.parameters.length) = some n)
theorem X_callS (hK : xK K E own cc Lw nL rf rc rs rl) {L1 : List (Nat × Nat)} {post : Option Value → xT → xG → Prop} {mc ms idx mx rf1 rl1 n : Nat} {y : MethodName} {cy : ByteArray} {ret : Option FieldType} (As rest : List Value) (hw : xLS own idx y cy mx ret n) (hM : xMt K.2.1 y cy mx ret rf1 mc ms rl1 E.1 E.2.1 E.2.2.1 E.2.2.2.2.2.2.2 L1 As S g post) (hd : decode cc pc = .ok (.invokestatic idx, 3)) (hst : st = As.reverse ++ rest) (hn : As.length = n) (hc : (rest.map fun v => v.category).sum ≤ 8) (hrm : rf1 + 1 ≤ rf ∧ 8 + (mx + 11) + rl1 ≤ rl) (hrc : cells + mc ≤ rc) (hrs : slots + ms ≤ rs) (hL : ∀ q ∈ L1, q ∈ Lw)
    (kk : ∀ (r : Option Value) (S1 : xT) (g1 : xG), post r S1 g1 → xLe S S1 → xM L1 S g g1 → X K E (pc + 3) lv (r.toList ++ rest) S1 g1 (cells + mc) (slots + ms)) : X K E pc lv st S g cells slots := by
  subst hst
  refine xCall hK (As := As) (a := As.toArray) (mc := mc) (ms := ms) (rest := rest) ?_ hL kk
  intro H locs ls h1 h2 h5 h6
  obtain ⟨w1, w2, w3, w4, w5⟩ := hw
  exact va_runS (As := As) (rest := rest) ⟨hK.1, hK.2.1, hK.2.2.1.trans (hK.2.2.2.2.2.2.2.2.2.2.2.2.2.1).symm, hK.2.2.2.1, hK.2.2.2.2.1⟩ hM (va_cwS n hK.2.2.2.2.1 (gw_S w1 w2 w3 w4) rfl rfl rfl w5 ⟨by rw [hK.2.2.2.2.2.2.2.2.2.1]; exact hrm.1, by rw [hK.2.2.2.2.2.2.2.2.2.2.2.2.1]; exact hrm.2⟩) ⟨xPre.blind, fun U hU hW => ⟨rfl, xPreOf hK h1 h2 h5 U hU hW⟩⟩ rfl hn h6.1 rfl (lv_room hc) hd ⟨by rw [hK.2.2.2.2.2.2.2.2.2.2.1]; exact hrc, by rw [hK.2.2.2.2.2.2.2.2.2.2.2.1]; exact hrs⟩
theorem xRecv {D : va_G} {kA : Nat → ClassId} {b0 : Nat} {H : Heap} {U : State} {a t n : Nat} {C : String} {T : u_T} {N : Nat} (hV : va_K D vwCl (xtys kA) U) (h1 : xR D kA b0 S g H) (hs : S a = some (t, n)) (ht : t < 10000) (hc : vwCl[t % 100]? = some (C, T, N)) : ∃ cell : Cell, H[a]? = some cell ∧ cell.vm.isStatics = false ∧ U.vm.findClass C = some cell.cls := by
  obtain ⟨r, g1, cell, q1, q2, q3, -⟩ := xat_o (h1 a t n hs).2 ht
  exact ⟨cell, q1, by rw [q3]; rfl, by rw [q2]; exact (hV.1 _ _ hc).2.1⟩
theorem X_callV (hK : xK K E own cc Lw nL rf rc rs rl) {L1 : List (Nat × Nat)} {post : Option Value → xT → xG → Prop} {mc ms idx mx rf1 rl1 n a t q : Nat} {y : MethodName} {cy : ByteArray} {ret : Option FieldType} {T : u_T} {N : Nat} (As rest : List Value) (hw : xLV own idx y cy mx ret n) (hM : xMt K.2.1 y cy mx ret rf1 mc ms rl1 E.1 E.2.1 E.2.2.1 E.2.2.2.2.2.2.2 L1 (.ref a :: As) S g post) (hs : S a = some (t, q)) (hcl : t < 10000 ∧ vwCl[t % 100]? = some (y.cls, T, N)) (hd : decode cc pc = .ok (.invokevirtual idx, 3)) (hst : st = As.reverse ++ .ref a :: rest) (hn : As.length = n) (hc : (rest.map fun v => v.category).sum ≤ 8) (hrm : rf1 + 1 ≤ rf ∧ 8 + (mx + 11) + rl1 ≤ rl) (hrc : cells + mc ≤ rc) (hrs : slots + ms ≤ rs) (hL : ∀ q ∈ L1, q ∈ Lw)
    (kk : ∀ (r : Option Value) (S1 : xT) (g1 : xG), post r S1 g1 → xLe S S1 → xM L1 S g g1 → X K E (pc + 3) lv (r.toList ++ rest) S1 g1 (cells + mc) (slots + ms)) : X K E pc lv st S g cells slots := by
  subst hst
  refine xCall hK (As := As) (a := (Value.ref a :: As).toArray) (mc := mc) (ms := ms) (rest := rest) ?_ hL kk
  intro H locs ls h1 h2 h5 h6
  obtain ⟨w1, w2, w3, w4, w5, w6⟩ := hw
  exact va_runV (As := As) (rest := rest) (C := y.cls) ⟨hK.1, hK.2.1, hK.2.2.1.trans (hK.2.2.2.2.2.2.2.2.2.2.2.2.2.1).symm, hK.2.2.2.1, hK.2.2.2.2.1⟩ hM (cwV n hK.2.2.2.2.1 (gw_V w1 w2 w3 w4 w5) rfl rfl rfl ⟨rfl, w6⟩ ⟨by rw [hK.2.2.2.2.2.2.2.2.2.1]; exact hrm.1, by rw [hK.2.2.2.2.2.2.2.2.2.2.2.2.1]; exact hrm.2⟩) ⟨xPre.blind, xRecv hK.2.2.2.2.2.1 h1 hs hcl.1 hcl.2, fun U hU hW => ⟨rfl, xPreOf hK h1 h2 h5 U hU hW⟩⟩ rfl hn h6.1 rfl (lv_room hc) hd ⟨by rw [hK.2.2.2.2.2.2.2.2.2.2.1]; exact hrc, by rw [hK.2.2.2.2.2.2.2.2.2.2.2.1]; exact hrs⟩
def xLN (own : String) (idx : Nat) (y : MethodName) (cy : ByteArray) (mx : Nat) (ret : Option FieldType) (n : Nat) : Prop := (own, idx, y, "PaperBoys") ∈ nstM ∧ Cond.static y ∈ wsL_law ∧ Cond.initialized y.cls ∈ wsL_law ∧ Cond.code y cy mx ret ∈ wsL_law ∧ (y.cls ≠ "java/lang/invoke/MethodHandle" ∧ y.cls ≠ "java/lang/invoke/VarHandle" ∧ (parseMethodDescriptor y.desc).map (fun d => d.parameters.length) = some n)
theorem X_callN (hK : xK K E own cc Lw nL rf rc rs rl) {L1 : List (Nat × Nat)} {post : Option Value → xT → xG → Prop} {mc ms idx mx rf1 rl1 n : Nat} {y : MethodName} {cy : ByteArray} {ret : Option FieldType} (As rest : List Value) (hw : xLN own idx y cy mx ret n) (hM : xMt K.2.1 y cy mx ret rf1 mc ms rl1 E.1 E.2.1 E.2.2.1 E.2.2.2.2.2.2.2 L1 As S g post) (hd : decode cc pc = .ok (.invokestatic idx, 3)) (hst : st = As.reverse ++ rest) (hn : As.length = n) (hc : (rest.map fun v => v.category).sum ≤ 8) (hrm : rf1 + 1 ≤ rf ∧ 8 + (mx + 11) + rl1 ≤ rl) (hrc : cells + mc ≤ rc) (hrs : slots + ms ≤ rs) (hL : ∀ q ∈ L1, q ∈ Lw)
    (kk : ∀ (r : Option Value) (S1 : xT) (g1 : xG), post r S1 g1 → xLe S S1 → xM L1 S g g1 → X K E (pc + 3) lv (r.toList ++ rest) S1 g1 (cells + mc) (slots + ms)) : X K E pc lv st S g cells slots := by
  subst hst
  refine xCall hK (As := As) (a := As.toArray) (mc := mc) (ms := ms) (rest := rest) ?_ hL kk
  intro H locs ls h1 h2 h5 h6
  obtain ⟨w1, w2, w3, w4, w5⟩ := hw
  exact va_runSN (As := As) (rest := rest) ⟨hK.1, hK.2.1, hK.2.2.1.trans (hK.2.2.2.2.2.2.2.2.2.2.2.2.2.1).symm, hK.2.2.2.1, hK.2.2.2.2.1⟩ hM ⟨va_cnB n hK.2.2.2.2.1 (gw_I w4) rfl rfl rfl ((hK.2.2.2.2.2.2.2.1).2.1 _ w1) (hK.2.2.2.2.1 _ w3) w5 ⟨by rw [hK.2.2.2.2.2.2.2.2.2.1]; exact hrm.1, by rw [hK.2.2.2.2.2.2.2.2.2.2.2.2.1]; exact hrm.2⟩, hK.2.2.2.2.1 _ w2, trivial⟩ ⟨xPre.blind, fun U hU hW => ⟨rfl, xPreOf hK h1 h2 h5 U hU hW⟩⟩ rfl hn h6.1 rfl (lv_room hc) hd ⟨by rw [hK.2.2.2.2.2.2.2.2.2.2.1]; exact hrc, by rw [hK.2.2.2.2.2.2.2.2.2.2.2.1]; exact hrs⟩
end XC
/-- the end of a method -/
def xRetI (K : xCx) (E : xEn) (cc : ByteArray) (rc rs : Nat) (post : Option Value → xT → xG → Prop) : Prop := ∀ (pc : Nat) (lv : List (Nat × Value)) (z : Int) (S1 : xT) (g1 : xG) (cells slots : Nat), decode cc pc = .ok (.ireturn, 1) → post (some (.int (iI z))) S1 g1 → cells ≤ rc → slots ≤ rs → X K E pc lv [.int (iI z)] S1 g1 cells slots
def xRetZ (K : xCx) (E : xEn) (cc : ByteArray) (rc rs : Nat) (post : Option Value → xT → xG → Prop) : Prop := ∀ (pc : Nat) (lv : List (Nat × Value)) (z : Int) (S1 : xT) (g1 : xG) (cells slots : Nat), decode cc pc = .ok (.ireturn, 1) → 0 ≤ z → z ≤ 1 → post (some (.int (iI z))) S1 g1 → cells ≤ rc → slots ≤ rs → X K E pc lv [.int (iI z)] S1 g1 cells slots
def xRetV (K : xCx) (E : xEn) (cc : ByteArray) (rc rs : Nat) (post : Option Value → xT → xG → Prop) : Prop := ∀ (pc : Nat) (lv : List (Nat × Value)) (S1 : xT) (g1 : xG) (cells slots : Nat), decode cc pc = .ok (.return_, 1) → post none S1 g1 → cells ≤ rc → slots ≤ rs → X K E pc lv [] S1 g1 cells slots
def xRetL (K : xCx) (E : xEn) (cc : ByteArray) (rc rs : Nat) (post : Option Value → xT → xG → Prop) : Prop := ∀ (pc : Nat) (lv : List (Nat × Value)) (w : Int64) (S1 : xT) (g1 : xG) (cells slots : Nat), decode cc pc = .ok (.lreturn, 1) → post (some (.long w)) S1 g1 → cells ≤ rc → slots ≤ rs → X K E pc lv [.long w] S1 g1 cells slots
def xRetA (K : xCx) (E : xEn) (cc : ByteArray) (rc rs : Nat) (post : Option Value → xT → xG → Prop) : Prop := ∀ (pc : Nat) (lv : List (Nat × Value)) (v : Value) (S1 : xT) (g1 : xG) (cells slots : Nat), decode cc pc = .ok (.areturn, 1) → (v = .null ∨ ∃ a, v = .ref a) → post (some v) S1 g1 → cells ≤ rc → slots ≤ rs → X K E pc lv [v] S1 g1 cells slots
theorem xEnterI {y : MethodName} {cy : ByteArray} {mx rf rc rs rl : Nat} {l : Launch} {D : va_G} {kA : Nat → ClassId} {b0 : Nat} {t0 : Nat → Nat} {L : List (Nat × Nat)} {av : List Value} {S : xT} {g : xG} {post : Option Value → xT → xG → Prop}  (hy : plainName y.cls = true) (hlen : (lg_sl av).length ≤ mx) (lv0 : List (Nat × Value)) (hlv : lv_args 0 av = lv0)
    (body : ∀ (K : xCx) (E : xEn), xK K E y.cls cy L mx rf rc rs rl → xRetI K E cy rc rs post → E.2.2.2.1 = S → E.2.2.2.2.1 = g → (y.name = "<init>" → K.2.2.2.2.2.2.2.2.1.name = "<init>") → X K E 0 lv0 [] S g 0 0) : xMt l y cy mx (some .int) rf rc rs rl D kA b0 t0 L av S g post := by
  refine Met.ofW (cc := cy) (maxL := mx) (ret := (some .int)) hy rfl ?_
  intro p e s m args below meth c s₁ B hml hv
  obtain ⟨rfl, hR1, hW1, hVK, hb0, hns, hal⟩ := hv
  have hr := B.returns
  have hts := atoms_spec (ws := Cond.code y cy mx (some .int) :: wsL_law) B.pre
  have hlocks := B.notSynchronized
  have hK : xK (p, l, e, (headSpec (Cond.code y cy mx (some .int) :: wsL_law) ({ frames := rf, cells := rc, slots := rs, locals := rl })).room, s, m, av.toArray, below, meth, c, MQ below (xQc D kA b0 L S g post) av.toArray s rc rs (fun q => b0 ≤ q)) (D, kA, b0, S, g, L, mx, t0) y.cls cy L mx rf rc rs rl :=
    ⟨B.exec, B.bytes, hml, findClass_of_methodNamed B.named, fun w h => hts w (List.mem_cons_of_mem _ h), hVK, hb0, hns, hal, rfl, rfl, rfl, rfl, rfl, rfl⟩
  have h9 := body _ _ hK (by
    intro pc lv z S1 g1 cells slots hd hp hc1 hc2 H locs ls h1 h2 h3 h4 h5 h6
    refine W.widen hc1 hc2 ?_
    exact W.iret (v := iI z) hK.1 hK.2.1 hr (fun t ht hW => ⟨⟨_, S1, g1, rfl, hp, h3, h4, by rw [ht]; exact h1, h2⟩, h5.F ht⟩) h5.2.2 hd) rfl rfl (fun hn => (name_of_methodNamed B.named B.method).1.trans hn)
  have hl := lv_entry av (n := mx) hlen
  rw [lg_entry_eq]
  rw [hlv] at hl
  exact h9 s.heap [] _ hR1 hW1 xLe.rf xM.rf va_S.rf hl
theorem xEnterZ {y : MethodName} {cy : ByteArray} {mx rf rc rs rl : Nat} {l : Launch} {D : va_G} {kA : Nat → ClassId} {b0 : Nat} {t0 : Nat → Nat} {L : List (Nat × Nat)} {av : List Value} {S : xT} {g : xG} {post : Option Value → xT → xG → Prop}  (hy : plainName y.cls = true) (hlen : (lg_sl av).length ≤ mx) (lv0 : List (Nat × Value)) (hlv : lv_args 0 av = lv0)
    (body : ∀ (K : xCx) (E : xEn), xK K E y.cls cy L mx rf rc rs rl → xRetZ K E cy rc rs post → E.2.2.2.1 = S → E.2.2.2.2.1 = g → (y.name = "<init>" → K.2.2.2.2.2.2.2.2.1.name = "<init>") → X K E 0 lv0 [] S g 0 0) : xMt l y cy mx (some .boolean) rf rc rs rl D kA b0 t0 L av S g post := by
  refine Met.ofW (cc := cy) (maxL := mx) (ret := (some .boolean)) hy rfl ?_
  intro p e s m args below meth c s₁ B hml hv
  obtain ⟨rfl, hR1, hW1, hVK, hb0, hns, hal⟩ := hv
  have hr := B.returns
  have hts := atoms_spec (ws := Cond.code y cy mx (some .boolean) :: wsL_law) B.pre
  have hlocks := B.notSynchronized
  have hK : xK (p, l, e, (headSpec (Cond.code y cy mx (some .boolean) :: wsL_law) ({ frames := rf, cells := rc, slots := rs, locals := rl })).room, s, m, av.toArray, below, meth, c, MQ below (xQc D kA b0 L S g post) av.toArray s rc rs (fun q => b0 ≤ q)) (D, kA, b0, S, g, L, mx, t0) y.cls cy L mx rf rc rs rl :=
    ⟨B.exec, B.bytes, hml, findClass_of_methodNamed B.named, fun w h => hts w (List.mem_cons_of_mem _ h), hVK, hb0, hns, hal, rfl, rfl, rfl, rfl, rfl, rfl⟩
  have h9 := body _ _ hK (by
    intro pc lv z S1 g1 cells slots hd w1 w2 hp hc1 hc2 H locs ls h1 h2 h3 h4 h5 h6
    refine W.widen hc1 hc2 ?_
    exact W.zret (v := iI z) (ty := .boolean) hK.1 hK.2.1 hr (b01 w1 w2).1 (fun t ht hW => ⟨⟨_, S1, g1, rfl, hp, h3, h4, by rw [ht]; exact h1, h2⟩, h5.F ht⟩) h5.2.2 hd) rfl rfl (fun hn => (name_of_methodNamed B.named B.method).1.trans hn)
  have hl := lv_entry av (n := mx) hlen
  rw [lg_entry_eq]
  rw [hlv] at hl
  exact h9 s.heap [] _ hR1 hW1 xLe.rf xM.rf va_S.rf hl
theorem xEnterV {y : MethodName} {cy : ByteArray} {mx rf rc rs rl : Nat} {l : Launch} {D : va_G} {kA : Nat → ClassId} {b0 : Nat} {t0 : Nat → Nat} {L : List (Nat × Nat)} {av : List Value} {S : xT} {g : xG} {post : Option Value → xT → xG → Prop}  (hy : plainName y.cls = true) (hlen : (lg_sl av).length ≤ mx) (lv0 : List (Nat × Value)) (hlv : lv_args 0 av = lv0)
    (body : ∀ (K : xCx) (E : xEn), xK K E y.cls cy L mx rf rc rs rl → xRetV K E cy rc rs post → E.2.2.2.1 = S → E.2.2.2.2.1 = g → (y.name = "<init>" → K.2.2.2.2.2.2.2.2.1.name = "<init>") → X K E 0 lv0 [] S g 0 0) : xMt l y cy mx none rf rc rs rl D kA b0 t0 L av S g post := by
  refine Met.ofW (cc := cy) (maxL := mx) (ret := none) hy rfl ?_
  intro p e s m args below meth c s₁ B hml hv
  obtain ⟨rfl, hR1, hW1, hVK, hb0, hns, hal⟩ := hv
  have hr := B.returns
  have hts := atoms_spec (ws := Cond.code y cy mx none :: wsL_law) B.pre
  have hlocks := B.notSynchronized
  have hK : xK (p, l, e, (headSpec (Cond.code y cy mx none :: wsL_law) ({ frames := rf, cells := rc, slots := rs, locals := rl })).room, s, m, av.toArray, below, meth, c, MQ below (xQc D kA b0 L S g post) av.toArray s rc rs (fun q => b0 ≤ q)) (D, kA, b0, S, g, L, mx, t0) y.cls cy L mx rf rc rs rl :=
    ⟨B.exec, B.bytes, hml, findClass_of_methodNamed B.named, fun w h => hts w (List.mem_cons_of_mem _ h), hVK, hb0, hns, hal, rfl, rfl, rfl, rfl, rfl, rfl⟩
  have h9 := body _ _ hK (by
    intro pc lv S1 g1 cells slots hd hp hc1 hc2 H locs ls h1 h2 h3 h4 h5 h6
    refine W.widen hc1 hc2 ?_
    exact W.vret hK.1 hK.2.1 hr (fun t ht hW => ⟨⟨_, S1, g1, rfl, hp, h3, h4, by rw [ht]; exact h1, h2⟩, h5.F ht⟩) h5.2.2 hd) rfl rfl (fun hn => (name_of_methodNamed B.named B.method).1.trans hn)
  have hl := lv_entry av (n := mx) hlen
  rw [lg_entry_eq]
  rw [hlv] at hl
  exact h9 s.heap [] _ hR1 hW1 xLe.rf xM.rf va_S.rf hl
theorem xEnterL {y : MethodName} {cy : ByteArray} {mx rf rc rs rl : Nat} {l : Launch} {D : va_G} {kA : Nat → ClassId} {b0 : Nat} {t0 : Nat → Nat} {L : List (Nat × Nat)} {av : List Value} {S : xT} {g : xG} {post : Option Value → xT → xG → Prop}  (hy : plainName y.cls = true) (hlen : (lg_sl av).length ≤ mx) (lv0 : List (Nat × Value)) (hlv : lv_args 0 av = lv0)
    (body : ∀ (K : xCx) (E : xEn), xK K E y.cls cy L mx rf rc rs rl → xRetL K E cy rc rs post → E.2.2.2.1 = S → E.2.2.2.2.1 = g → (y.name = "<init>" → K.2.2.2.2.2.2.2.2.1.name = "<init>") → X K E 0 lv0 [] S g 0 0) : xMt l y cy mx (some .long) rf rc rs rl D kA b0 t0 L av S g post := by
  refine Met.ofW (cc := cy) (maxL := mx) (ret := (some .long)) hy rfl ?_
  intro p e s m args below meth c s₁ B hml hv
  obtain ⟨rfl, hR1, hW1, hVK, hb0, hns, hal⟩ := hv
  have hr := B.returns
  have hts := atoms_spec (ws := Cond.code y cy mx (some .long) :: wsL_law) B.pre
  have hlocks := B.notSynchronized
  have hK : xK (p, l, e, (headSpec (Cond.code y cy mx (some .long) :: wsL_law) ({ frames := rf, cells := rc, slots := rs, locals := rl })).room, s, m, av.toArray, below, meth, c, MQ below (xQc D kA b0 L S g post) av.toArray s rc rs (fun q => b0 ≤ q)) (D, kA, b0, S, g, L, mx, t0) y.cls cy L mx rf rc rs rl :=
    ⟨B.exec, B.bytes, hml, findClass_of_methodNamed B.named, fun w h => hts w (List.mem_cons_of_mem _ h), hVK, hb0, hns, hal, rfl, rfl, rfl, rfl, rfl, rfl⟩
  have h9 := body _ _ hK (by
    intro pc lv w S1 g1 cells slots hd hp hc1 hc2 H locs ls h1 h2 h3 h4 h5 h6
    refine W.widen hc1 hc2 ?_
    exact W.lret (v := w) hK.1 hK.2.1 hr (fun t ht hW => ⟨⟨_, S1, g1, rfl, hp, h3, h4, by rw [ht]; exact h1, h2⟩, h5.F ht⟩) h5.2.2 hd) rfl rfl (fun hn => (name_of_methodNamed B.named B.method).1.trans hn)
  have hl := lv_entry av (n := mx) hlen
  rw [lg_entry_eq]
  rw [hlv] at hl
  exact h9 s.heap [] _ hR1 hW1 xLe.rf xM.rf va_S.rf hl
theorem xEnterA {y : MethodName} {cy : ByteArray} {mx rf rc rs rl : Nat} {l : Launch} {D : va_G} {kA : Nat → ClassId} {b0 : Nat} {t0 : Nat → Nat} {L : List (Nat × Nat)} {av : List Value} {S : xT} {g : xG} {post : Option Value → xT → xG → Prop} {rt : FieldType} (hrt : (∃ n, rt = .object n) ∨ ∃ t, rt = .array t) (hy : plainName y.cls = true) (hlen : (lg_sl av).length ≤ mx) (lv0 : List (Nat × Value)) (hlv : lv_args 0 av = lv0)
    (body : ∀ (K : xCx) (E : xEn), xK K E y.cls cy L mx rf rc rs rl → xRetA K E cy rc rs post → E.2.2.2.1 = S → E.2.2.2.2.1 = g → (y.name = "<init>" → K.2.2.2.2.2.2.2.2.1.name = "<init>") → X K E 0 lv0 [] S g 0 0) : xMt l y cy mx (some rt) rf rc rs rl D kA b0 t0 L av S g post := by
  refine Met.ofW (cc := cy) (maxL := mx) (ret := (some rt)) hy rfl ?_
  intro p e s m args below meth c s₁ B hml hv
  obtain ⟨rfl, hR1, hW1, hVK, hb0, hns, hal⟩ := hv
  have hr := B.returns
  have hts := atoms_spec (ws := Cond.code y cy mx (some rt) :: wsL_law) B.pre
  have hlocks := B.notSynchronized
  have hK : xK (p, l, e, (headSpec (Cond.code y cy mx (some rt) :: wsL_law) ({ frames := rf, cells := rc, slots := rs, locals := rl })).room, s, m, av.toArray, below, meth, c, MQ below (xQc D kA b0 L S g post) av.toArray s rc rs (fun q => b0 ≤ q)) (D, kA, b0, S, g, L, mx, t0) y.cls cy L mx rf rc rs rl :=
    ⟨B.exec, B.bytes, hml, findClass_of_methodNamed B.named, fun w h => hts w (List.mem_cons_of_mem _ h), hVK, hb0, hns, hal, rfl, rfl, rfl, rfl, rfl, rfl⟩
  have h9 := body _ _ hK (by
    intro pc lv v S1 g1 cells slots hd w1 hp hc1 hc2 H locs ls h1 h2 h3 h4 h5 h6
    refine W.widen hc1 hc2 ?_
    exact W.aret (v := v) hK.1 hK.2.1 hr hrt w1 (fun t ht hW => ⟨⟨_, S1, g1, rfl, hp, h3, h4, by rw [ht]; exact h1, h2⟩, h5.F ht⟩) h5.2.2 hd) rfl rfl (fun hn => (name_of_methodNamed B.named B.method).1.trans hn)
  have hl := lv_entry av (n := mx) hlen
  rw [lg_entry_eq]
  rw [hlv] at hl
  exact h9 s.heap [] _ hR1 hW1 xLe.rf xM.rf va_S.rf hl
