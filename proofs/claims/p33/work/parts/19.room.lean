def xus (H : Heap) (b : Nat) : Nat := ((H.toList.drop b).map (fun c => c.slots.size)).sum
theorem xus_grow {s T : State} {locs : List Loc} {cells slots b : Nat} (h : s.sameButNew T locs cells slots) (hb : b ≤ s.heap.size) : xus T.heap b ≤ xus s.heap b + slots := by
  obtain ⟨-, hsz, -, -, hsl, hold⟩ := h
  have e1 : T.heap.toList.drop b = (T.heap.toList.drop b).take (s.heap.size - b) ++ T.heap.toList.drop s.heap.size := by
    have e := (List.take_append_drop (s.heap.size - b) (T.heap.toList.drop b)).symm
    rw [List.drop_drop] at e
    rw [show b + (s.heap.size - b) = s.heap.size by omega] at e
    exact e
  have e2 : ((T.heap.toList.drop b).take (s.heap.size - b)).map (fun c => c.slots.size) = (s.heap.toList.drop b).map (fun c => c.slots.size) := by
    apply List.ext_getElem?
    intro i
    rw [List.getElem?_map, List.getElem?_map, List.getElem?_take]
    by_cases hi : i < s.heap.size - b
    · rw [if_pos hi, List.getElem?_drop, List.getElem?_drop]
      have hlt : b + i < s.heap.size := by omega
      obtain ⟨c, hc⟩ : ∃ c, s.heap[b + i]? = some c := ⟨s.heap[b + i], by simp [hlt]⟩
      obtain ⟨c', hc', -, hs', -⟩ := hold (b + i) c hc
      have f1 : s.heap.toList[b + i]? = some c := by simpa using hc
      have f2 : T.heap.toList[b + i]? = some c' := by simpa using hc'
      rw [f1, f2]
      simp [hs']
    · rw [if_neg hi]
      have : (s.heap.toList.drop b)[i]? = none := by
        rw [List.getElem?_eq_none_iff]
        simp
        omega
      rw [this]
  unfold xus
  rw [e1, List.map_append, List.sum_append, e2]
  omega
def xQu (D : va_G) (kA : Nat → ClassId) (b0 : Nat) (L : List (Nat × Nat)) (S : xT) (g : xG) (post : Option Value → xT → xG → Nat → Nat → Prop) : Array Value → State → Outcome → State → Prop := fun _ st oc t =>
  (∃ (r : Option Value) (S1 : xT) (g1 : xG) (dc ds : Nat), oc = .returned r ∧ post r S1 g1 dc ds ∧ xLe S S1 ∧ xM L S g g1 ∧ xR D kA b0 S1 g1 t.heap ∧ xW S1 g1 ∧ t.heap.size ≤ st.heap.size + dc ∧ ∀ b, b ≤ st.heap.size → xus t.heap b ≤ xus st.heap b + ds) ∧ va_F (fun q => b0 ≤ q) st t
def xMu (l : Launch) (y : MethodName) (cy : ByteArray) (mx : Nat) (ret : Option FieldType) (rf rc rs rl : Nat) (D : va_G) (kA : Nat → ClassId) (b0 : Nat) (t0 : Nat → Nat) (L : List (Nat × Nat)) (av : List Value) (S : xT) (g : xG) (post : Option Value → xT → xG → Nat → Nat → Prop) : Prop :=
  Met l y (Cond.code y cy mx ret :: wsL_law) ({ frames := rf, cells := rc, slots := rs, locals := rl }) (va_Pc av (fun U => xPre D kA b0 t0 S g U)) (xQu D kA b0 L S g post) rc rs (fun q => b0 ≤ q)
section XU
variable {K : xCx} {E : xEn} {own : String} {cc : ByteArray} {Lw : List (Nat × Nat)} {nL rf rc rs rl : Nat} {pc : Nat} {lv : List (Nat × Value)} {st : List Value} {S : xT} {g : xG} {cells slots : Nat}
theorem xCallU (hK : xK K E own cc Lw nL rf rc rs rl) {L1 : List (Nat × Nat)} {post : Option Value → xT → xG → Nat → Nat → Prop} {mc ms : Nat} {As rest : List Value} {a : Array Value}
    (hr : ∀ (H : Heap) (locs : List Loc) (ls : Array Slot), xR E.1 E.2.1 E.2.2.1 S g H → xW S g → va_S (fun q => E.2.2.1 ≤ q) K.2.2.2.2.1.heap H locs → lv_has ls E.2.2.2.2.2.2.1 lv → va_Run K.1 K.2.1 K.2.2.1 K.2.2.2.1 K.2.2.2.2.1 K.2.2.2.2.2.1 K.2.2.2.2.2.2.1 K.2.2.2.2.2.2.2.1 K.2.2.2.2.2.2.2.2.1 K.2.2.2.2.2.2.2.2.2.1 H locs cells slots mc ms (F0 K.2.2.2.2.2.1 pc ls st) rest (xQu E.1 E.2.1 E.2.2.1 L1 S g post a) (fun q => E.2.2.1 ≤ q)) (hL : ∀ q ∈ L1, q ∈ Lw)
    (kk : ∀ (r : Option Value) (S1 : xT) (g1 : xG) (dc ds : Nat), post r S1 g1 dc ds → xLe S S1 → xM L1 S g g1 → X K E (pc + 3) lv (r.toList ++ rest) S1 g1 (cells + dc) (slots + ds)) : X K E pc lv st S g cells slots := by
  intro H locs ls h1 h2 h3 h4 h5 h6
  intro T hT X
  obtain ⟨v, st₀, t, T', L, k0, X', hL', e1, e2, ⟨⟨r, S1, g1, dc, ds, hv, hp, hle, hm, hR1, hW1, hgc, hgs⟩, hz, hk⟩, st'⟩ := hr H locs ls h1 h2 h5 h6 T hT X
  cases hv
  rw [k0] at hz hk hgc hgs
  have w1 := X.same.2.1
  have w2 := X.same.2.2.1
  have w3 := X.same.2.2.2.2.1
  change K.2.2.2.2.1.heap.size ≤ T.heap.size at w1
  change T.heap.size ≤ _ at w2
  change xus T.heap K.2.2.2.2.1.heap.size ≤ slots at w3
  rw [hT] at w1 w2 w3
  have X2 : Stand K.1 K.2.1 K.2.2.1 K.2.2.2.1 K.2.2.2.2.1 K.2.2.2.2.2.1 K.2.2.2.2.2.2.1 K.2.2.2.2.2.2.2.1 K.2.2.2.2.2.2.2.2.1 K.2.2.2.2.2.2.2.2.2.1 T' (locs ++ L) (cells + dc) (slots + ds) := { X' with same := ⟨X'.same.1, X'.same.2.1, by show T'.heap.size ≤ _; rw [e1]; omega, X'.same.2.2.2.1, by show xus T'.heap K.2.2.2.2.1.heap.size ≤ _; rw [e1]; have := hgs _ w1; omega, X'.same.2.2.2.2.2⟩ }
  obtain ⟨t2, a1, b1⟩ := kk _ S1 g1 dc ds hp hle hm T'.heap (locs ++ L) ls (by rw [e1]; exact hR1) hW1 (h3.tr hle) (h4.tr h3 hm (by rw [hK.2.2.2.2.2.2.2.2.2.2.2.2.2.2]; exact hL)) ⟨Nat.le_trans h5.1 (by rw [e1]; exact hz), fun q w1 w2 => by rw [e1, hk q (Nat.lt_of_lt_of_le w1 h5.1) w2]; exact h5.2.1 q w1 w2, fun q hq => by
      rcases List.mem_append.mp hq with h | h
      · exact h5.2.2 q h
      · exact hL' q h⟩ h6 T' rfl X2
  exact ⟨t2, st' t2 a1, b1⟩
theorem X_callSU (hK : xK K E own cc Lw nL rf rc rs rl) {L1 : List (Nat × Nat)} {post : Option Value → xT → xG → Nat → Nat → Prop} {mc ms idx mx rf1 rl1 n : Nat} {y : MethodName} {cy : ByteArray} {ret : Option FieldType} (As rest : List Value) (hw : xLS own idx y cy mx ret n) (hM : xMu K.2.1 y cy mx ret rf1 mc ms rl1 E.1 E.2.1 E.2.2.1 E.2.2.2.2.2.2.2 L1 As S g post) (hd : decode cc pc = .ok (.invokestatic idx, 3)) (hst : st = As.reverse ++ rest) (hn : As.length = n) (hc : (rest.map fun v => v.category).sum ≤ 8) (hrm : rf1 + 1 ≤ rf ∧ 8 + (mx + 11) + rl1 ≤ rl) (hrc : cells + mc ≤ rc) (hrs : slots + ms ≤ rs) (hL : ∀ q ∈ L1, q ∈ Lw)
    (kk : ∀ (r : Option Value) (S1 : xT) (g1 : xG) (dc ds : Nat), post r S1 g1 dc ds → xLe S S1 → xM L1 S g g1 → X K E (pc + 3) lv (r.toList ++ rest) S1 g1 (cells + dc) (slots + ds)) : X K E pc lv st S g cells slots := by
  subst hst
  refine xCallU hK (As := As) (a := As.toArray) (mc := mc) (ms := ms) (rest := rest) ?_ hL kk
  intro H locs ls h1 h2 h5 h6
  obtain ⟨w1, w2, w3, w4, w5⟩ := hw
  exact va_runS (As := As) (rest := rest) ⟨hK.1, hK.2.1, hK.2.2.1.trans (hK.2.2.2.2.2.2.2.2.2.2.2.2.2.1).symm, hK.2.2.2.1, hK.2.2.2.2.1⟩ hM (va_cwS n hK.2.2.2.2.1 (gw_S w1 w2 w3 w4) rfl rfl rfl w5 ⟨by rw [hK.2.2.2.2.2.2.2.2.2.1]; exact hrm.1, by rw [hK.2.2.2.2.2.2.2.2.2.2.2.2.1]; exact hrm.2⟩) ⟨xPre.blind, fun U hU hW => ⟨rfl, xPreOf hK h1 h2 h5 U hU hW⟩⟩ rfl hn h6.1 rfl (lv_room hc) hd ⟨by rw [hK.2.2.2.2.2.2.2.2.2.2.1]; exact hrc, by rw [hK.2.2.2.2.2.2.2.2.2.2.2.1]; exact hrs⟩
theorem X_callVU (hK : xK K E own cc Lw nL rf rc rs rl) {L1 : List (Nat × Nat)} {post : Option Value → xT → xG → Nat → Nat → Prop} {mc ms idx mx rf1 rl1 n a t q : Nat} {y : MethodName} {cy : ByteArray} {ret : Option FieldType} {T : u_T} {N : Nat} (As rest : List Value) (hw : xLV own idx y cy mx ret n) (hM : xMu K.2.1 y cy mx ret rf1 mc ms rl1 E.1 E.2.1 E.2.2.1 E.2.2.2.2.2.2.2 L1 (.ref a :: As) S g post) (hs : S a = some (t, q)) (hcl : t < 10000 ∧ vwCl[t % 100]? = some (y.cls, T, N)) (hd : decode cc pc = .ok (.invokevirtual idx, 3)) (hst : st = As.reverse ++ .ref a :: rest) (hn : As.length = n) (hc : (rest.map fun v => v.category).sum ≤ 8) (hrm : rf1 + 1 ≤ rf ∧ 8 + (mx + 11) + rl1 ≤ rl) (hrc : cells + mc ≤ rc) (hrs : slots + ms ≤ rs) (hL : ∀ q ∈ L1, q ∈ Lw)
    (kk : ∀ (r : Option Value) (S1 : xT) (g1 : xG) (dc ds : Nat), post r S1 g1 dc ds → xLe S S1 → xM L1 S g g1 → X K E (pc + 3) lv (r.toList ++ rest) S1 g1 (cells + dc) (slots + ds)) : X K E pc lv st S g cells slots := by
  subst hst
  refine xCallU hK (As := As) (a := (Value.ref a :: As).toArray) (mc := mc) (ms := ms) (rest := rest) ?_ hL kk
  intro H locs ls h1 h2 h5 h6
  obtain ⟨w1, w2, w3, w4, w5, w6⟩ := hw
  exact va_runV (As := As) (rest := rest) (C := y.cls) ⟨hK.1, hK.2.1, hK.2.2.1.trans (hK.2.2.2.2.2.2.2.2.2.2.2.2.2.1).symm, hK.2.2.2.1, hK.2.2.2.2.1⟩ hM (cwV n hK.2.2.2.2.1 (gw_V w1 w2 w3 w4 w5) rfl rfl rfl ⟨rfl, w6⟩ ⟨by rw [hK.2.2.2.2.2.2.2.2.2.1]; exact hrm.1, by rw [hK.2.2.2.2.2.2.2.2.2.2.2.2.1]; exact hrm.2⟩) ⟨xPre.blind, xRecv hK.2.2.2.2.2.1 h1 hs hcl.1 hcl.2, fun U hU hW => ⟨rfl, xPreOf hK h1 h2 h5 U hU hW⟩⟩ rfl hn h6.1 rfl (lv_room hc) hd ⟨by rw [hK.2.2.2.2.2.2.2.2.2.2.1]; exact hrc, by rw [hK.2.2.2.2.2.2.2.2.2.2.2.1]; exact hrs⟩
theorem X_callIU (hK : xK K E own cc Lw nL rf rc rs rl) {L1 : List (Nat × Nat)} {post : Option Value → xT → xG → Nat → Nat → Prop} {mc ms idx mx rf1 rl1 n a : Nat} {y : MethodName} {cy : ByteArray} (As rest : List Value) (hw : xLI own idx y cy mx n) (hM : xMu K.2.1 y cy mx none rf1 mc ms rl1 E.1 E.2.1 E.2.2.1 E.2.2.2.2.2.2.2 L1 (.ref a :: As) S g post) (hd : decode cc pc = .ok (.invokespecial idx, 3)) (hst : st = As.reverse ++ .ref a :: rest) (hn : As.length = n) (hc : (rest.map fun v => v.category).sum ≤ 8) (hrm : rf1 + 1 ≤ rf ∧ 8 + (mx + 11) + rl1 ≤ rl) (hrc : cells + mc ≤ rc) (hrs : slots + ms ≤ rs) (hL : ∀ q ∈ L1, q ∈ Lw)
    (kk : ∀ (r : Option Value) (S1 : xT) (g1 : xG) (dc ds : Nat), post r S1 g1 dc ds → xLe S S1 → xM L1 S g g1 → X K E (pc + 3) lv (r.toList ++ rest) S1 g1 (cells + dc) (slots + ds)) : X K E pc lv st S g cells slots := by
  subst hst
  refine xCallU hK (As := As) (a := (Value.ref a :: As).toArray) (mc := mc) (ms := ms) (rest := rest) ?_ hL kk
  intro H locs ls h1 h2 h5 h6
  obtain ⟨w1, w2, w3, w4, w5, w6⟩ := hw
  rcases w1 with w1 | w1
  · exact va_runI (As := As) (rest := rest) ⟨hK.1, hK.2.1, hK.2.2.1.trans (hK.2.2.2.2.2.2.2.2.2.2.2.2.2.1).symm, hK.2.2.2.1, hK.2.2.2.2.1⟩ hM (cwI n hK.2.2.2.2.1 (gw_I w4) rfl rfl rfl (hK.2.2.2.2.1 _ w3) (hK.2.2.2.2.1 _ w1) (hK.2.2.2.2.1 _ w2) w5 w6 ⟨by rw [hK.2.2.2.2.2.2.2.2.2.1]; exact hrm.1, by rw [hK.2.2.2.2.2.2.2.2.2.2.2.2.1]; exact hrm.2⟩) ⟨xPre.blind, fun U hU hW => ⟨rfl, xPreOf hK h1 h2 h5 U hU hW⟩⟩ rfl hn h6.1 rfl (lv_room hc) hd ⟨by rw [hK.2.2.2.2.2.2.2.2.2.2.1]; exact hrc, by rw [hK.2.2.2.2.2.2.2.2.2.2.2.1]; exact hrs⟩
  · exact va_runIN (As := As) (rest := rest) ⟨hK.1, hK.2.1, hK.2.2.1.trans (hK.2.2.2.2.2.2.2.2.2.2.2.2.2.1).symm, hK.2.2.2.1, hK.2.2.2.2.1⟩ hM ⟨va_cnB n hK.2.2.2.2.1 (gw_I w4) rfl rfl rfl ((hK.2.2.2.2.2.2.2.1).1.1 _ w1) (hK.2.2.2.2.1 _ w3) w6 ⟨by rw [hK.2.2.2.2.2.2.2.2.2.1]; exact hrm.1, by rw [hK.2.2.2.2.2.2.2.2.2.2.2.2.1]; exact hrm.2⟩, w5, hK.2.2.2.2.1 _ w2⟩ ⟨xPre.blind, fun U hU hW => ⟨rfl, xPreOf hK h1 h2 h5 U hU hW⟩⟩ rfl hn h6.1 rfl (lv_room hc) hd ⟨by rw [hK.2.2.2.2.2.2.2.2.2.2.1]; exact hrc, by rw [hK.2.2.2.2.2.2.2.2.2.2.2.1]; exact hrs⟩
end XU
def xRetUI (K : xCx) (E : xEn) (cc : ByteArray) (rc rs : Nat) (post : Option Value → xT → xG → Nat → Nat → Prop) : Prop := ∀ (pc : Nat) (lv : List (Nat × Value)) (z : Int) (S1 : xT) (g1 : xG) (cells slots : Nat), decode cc pc = .ok (.ireturn, 1) → post (some (.int (iI z))) S1 g1 cells slots → cells ≤ rc → slots ≤ rs → X K E pc lv [.int (iI z)] S1 g1 cells slots
def xRetUZ (K : xCx) (E : xEn) (cc : ByteArray) (rc rs : Nat) (post : Option Value → xT → xG → Nat → Nat → Prop) : Prop := ∀ (pc : Nat) (lv : List (Nat × Value)) (z : Int) (S1 : xT) (g1 : xG) (cells slots : Nat), decode cc pc = .ok (.ireturn, 1) → 0 ≤ z → z ≤ 1 → post (some (.int (iI z))) S1 g1 cells slots → cells ≤ rc → slots ≤ rs → X K E pc lv [.int (iI z)] S1 g1 cells slots
def xRetUV (K : xCx) (E : xEn) (cc : ByteArray) (rc rs : Nat) (post : Option Value → xT → xG → Nat → Nat → Prop) : Prop := ∀ (pc : Nat) (lv : List (Nat × Value))  (S1 : xT) (g1 : xG) (cells slots : Nat), decode cc pc = .ok (.return_, 1) → post (none) S1 g1 cells slots → cells ≤ rc → slots ≤ rs → X K E pc lv [] S1 g1 cells slots
def xRetUA (K : xCx) (E : xEn) (cc : ByteArray) (rc rs : Nat) (post : Option Value → xT → xG → Nat → Nat → Prop) : Prop := ∀ (pc : Nat) (lv : List (Nat × Value)) (v : Value) (S1 : xT) (g1 : xG) (cells slots : Nat), decode cc pc = .ok (.areturn, 1) → (v = .null ∨ ∃ a, v = .ref a) → post (some v) S1 g1 cells slots → cells ≤ rc → slots ≤ rs → X K E pc lv [v] S1 g1 cells slots
theorem xEnterUI {y : MethodName} {cy : ByteArray} {mx rf rc rs rl : Nat} {l : Launch} {D : va_G} {kA : Nat → ClassId} {b0 : Nat} {t0 : Nat → Nat} {L : List (Nat × Nat)} {av : List Value} {S : xT} {g : xG} {post : Option Value → xT → xG → Nat → Nat → Prop}  (hy : plainName y.cls = true) (hlen : (lg_sl av).length ≤ mx) (lv0 : List (Nat × Value)) (hlv : lv_args 0 av = lv0)
    (body : ∀ (K : xCx) (E : xEn), xK K E y.cls cy L mx rf rc rs rl → xRetUI K E cy rc rs post → E.2.2.2.1 = S → E.2.2.2.2.1 = g → (y.name = "<init>" → K.2.2.2.2.2.2.2.2.1.name = "<init>") → E.2.2.2.2.2.2.2 = t0 → X K E 0 lv0 [] S g 0 0) : xMu l y cy mx (some .int) rf rc rs rl D kA b0 t0 L av S g post := by
  refine Met.ofW (cc := cy) (maxL := mx) (ret := (some .int)) hy rfl ?_
  intro p e s m args below meth c s₁ B hml hv
  obtain ⟨rfl, hR1, hW1, hVK, hb0, hns, hal⟩ := hv
  have hr := B.returns
  have hts := atoms_spec (ws := Cond.code y cy mx (some .int) :: wsL_law) B.pre
  have hlocks := B.notSynchronized
  have hK : xK (p, l, e, (headSpec (Cond.code y cy mx (some .int) :: wsL_law) ({ frames := rf, cells := rc, slots := rs, locals := rl })).room, s, m, av.toArray, below, meth, c, MQ below (xQu D kA b0 L S g post) av.toArray s rc rs (fun q => b0 ≤ q)) (D, kA, b0, S, g, L, mx, t0) y.cls cy L mx rf rc rs rl :=
    ⟨B.exec, B.bytes, hml, findClass_of_methodNamed B.named, fun w h => hts w (List.mem_cons_of_mem _ h), hVK, hb0, hns, hal, rfl, rfl, rfl, rfl, rfl, rfl⟩
  have h9 := body _ _ hK (by
    intro pc lv z S1 g1 cells slots hd hp hc1 hc2 H locs ls h1 h2 h3 h4 h5 h6 T9 hT9 X9
    have v1 := X9.same.2.2.1
    have v2 := fun b hb => xus_grow (b := b) X9.same hb
    change T9.heap.size ≤ _ at v1
    rw [hT9] at v1
    have v3 : ∀ b, b ≤ s.heap.size → xus H b ≤ xus s.heap b + slots := fun b hb => by have := v2 b hb; change xus T9.heap b ≤ _ at this; rw [hT9] at this; exact this
    refine W.widen hc1 hc2 ?_ T9 hT9 X9
    exact W.iret (v := iI z) hK.1 hK.2.1 hr (fun t ht hW => ⟨⟨_, S1, g1, cells, slots, rfl, hp, h3, h4, by rw [ht]; exact h1, h2, by rw [ht]; exact v1, fun b hb => by rw [ht]; exact v3 b hb⟩, h5.F ht⟩) h5.2.2 hd) rfl rfl (fun hn => (name_of_methodNamed B.named B.method).1.trans hn) rfl
  have hl := lv_entry av (n := mx) hlen
  rw [lg_entry_eq]
  rw [hlv] at hl
  exact h9 s.heap [] _ hR1 hW1 xLe.rf xM.rf va_S.rf hl
theorem xEnterUZ {y : MethodName} {cy : ByteArray} {mx rf rc rs rl : Nat} {l : Launch} {D : va_G} {kA : Nat → ClassId} {b0 : Nat} {t0 : Nat → Nat} {L : List (Nat × Nat)} {av : List Value} {S : xT} {g : xG} {post : Option Value → xT → xG → Nat → Nat → Prop}  (hy : plainName y.cls = true) (hlen : (lg_sl av).length ≤ mx) (lv0 : List (Nat × Value)) (hlv : lv_args 0 av = lv0)
    (body : ∀ (K : xCx) (E : xEn), xK K E y.cls cy L mx rf rc rs rl → xRetUZ K E cy rc rs post → E.2.2.2.1 = S → E.2.2.2.2.1 = g → (y.name = "<init>" → K.2.2.2.2.2.2.2.2.1.name = "<init>") → E.2.2.2.2.2.2.2 = t0 → X K E 0 lv0 [] S g 0 0) : xMu l y cy mx (some .boolean) rf rc rs rl D kA b0 t0 L av S g post := by
  refine Met.ofW (cc := cy) (maxL := mx) (ret := (some .boolean)) hy rfl ?_
  intro p e s m args below meth c s₁ B hml hv
  obtain ⟨rfl, hR1, hW1, hVK, hb0, hns, hal⟩ := hv
  have hr := B.returns
  have hts := atoms_spec (ws := Cond.code y cy mx (some .boolean) :: wsL_law) B.pre
  have hlocks := B.notSynchronized
  have hK : xK (p, l, e, (headSpec (Cond.code y cy mx (some .boolean) :: wsL_law) ({ frames := rf, cells := rc, slots := rs, locals := rl })).room, s, m, av.toArray, below, meth, c, MQ below (xQu D kA b0 L S g post) av.toArray s rc rs (fun q => b0 ≤ q)) (D, kA, b0, S, g, L, mx, t0) y.cls cy L mx rf rc rs rl :=
    ⟨B.exec, B.bytes, hml, findClass_of_methodNamed B.named, fun w h => hts w (List.mem_cons_of_mem _ h), hVK, hb0, hns, hal, rfl, rfl, rfl, rfl, rfl, rfl⟩
  have h9 := body _ _ hK (by
    intro pc lv z S1 g1 cells slots hd w1 w2 hp hc1 hc2 H locs ls h1 h2 h3 h4 h5 h6 T9 hT9 X9
    have v1 := X9.same.2.2.1
    have v2 := fun b hb => xus_grow (b := b) X9.same hb
    change T9.heap.size ≤ _ at v1
    rw [hT9] at v1
    have v3 : ∀ b, b ≤ s.heap.size → xus H b ≤ xus s.heap b + slots := fun b hb => by have := v2 b hb; change xus T9.heap b ≤ _ at this; rw [hT9] at this; exact this
    refine W.widen hc1 hc2 ?_ T9 hT9 X9
    exact W.zret (v := iI z) (ty := .boolean) hK.1 hK.2.1 hr (b01 w1 w2).1 (fun t ht hW => ⟨⟨_, S1, g1, cells, slots, rfl, hp, h3, h4, by rw [ht]; exact h1, h2, by rw [ht]; exact v1, fun b hb => by rw [ht]; exact v3 b hb⟩, h5.F ht⟩) h5.2.2 hd) rfl rfl (fun hn => (name_of_methodNamed B.named B.method).1.trans hn) rfl
  have hl := lv_entry av (n := mx) hlen
  rw [lg_entry_eq]
  rw [hlv] at hl
  exact h9 s.heap [] _ hR1 hW1 xLe.rf xM.rf va_S.rf hl
theorem xEnterUV {y : MethodName} {cy : ByteArray} {mx rf rc rs rl : Nat} {l : Launch} {D : va_G} {kA : Nat → ClassId} {b0 : Nat} {t0 : Nat → Nat} {L : List (Nat × Nat)} {av : List Value} {S : xT} {g : xG} {post : Option Value → xT → xG → Nat → Nat → Prop}  (hy : plainName y.cls = true) (hlen : (lg_sl av).length ≤ mx) (lv0 : List (Nat × Value)) (hlv : lv_args 0 av = lv0)
    (body : ∀ (K : xCx) (E : xEn), xK K E y.cls cy L mx rf rc rs rl → xRetUV K E cy rc rs post → E.2.2.2.1 = S → E.2.2.2.2.1 = g → (y.name = "<init>" → K.2.2.2.2.2.2.2.2.1.name = "<init>") → E.2.2.2.2.2.2.2 = t0 → X K E 0 lv0 [] S g 0 0) : xMu l y cy mx none rf rc rs rl D kA b0 t0 L av S g post := by
  refine Met.ofW (cc := cy) (maxL := mx) (ret := none) hy rfl ?_
  intro p e s m args below meth c s₁ B hml hv
  obtain ⟨rfl, hR1, hW1, hVK, hb0, hns, hal⟩ := hv
  have hr := B.returns
  have hts := atoms_spec (ws := Cond.code y cy mx none :: wsL_law) B.pre
  have hlocks := B.notSynchronized
  have hK : xK (p, l, e, (headSpec (Cond.code y cy mx none :: wsL_law) ({ frames := rf, cells := rc, slots := rs, locals := rl })).room, s, m, av.toArray, below, meth, c, MQ below (xQu D kA b0 L S g post) av.toArray s rc rs (fun q => b0 ≤ q)) (D, kA, b0, S, g, L, mx, t0) y.cls cy L mx rf rc rs rl :=
    ⟨B.exec, B.bytes, hml, findClass_of_methodNamed B.named, fun w h => hts w (List.mem_cons_of_mem _ h), hVK, hb0, hns, hal, rfl, rfl, rfl, rfl, rfl, rfl⟩
  have h9 := body _ _ hK (by
    intro pc lv S1 g1 cells slots hd hp hc1 hc2 H locs ls h1 h2 h3 h4 h5 h6 T9 hT9 X9
    have v1 := X9.same.2.2.1
    have v2 := fun b hb => xus_grow (b := b) X9.same hb
    change T9.heap.size ≤ _ at v1
    rw [hT9] at v1
    have v3 : ∀ b, b ≤ s.heap.size → xus H b ≤ xus s.heap b + slots := fun b hb => by have := v2 b hb; change xus T9.heap b ≤ _ at this; rw [hT9] at this; exact this
    refine W.widen hc1 hc2 ?_ T9 hT9 X9
    exact W.vret hK.1 hK.2.1 hr (fun t ht hW => ⟨⟨_, S1, g1, cells, slots, rfl, hp, h3, h4, by rw [ht]; exact h1, h2, by rw [ht]; exact v1, fun b hb => by rw [ht]; exact v3 b hb⟩, h5.F ht⟩) h5.2.2 hd) rfl rfl (fun hn => (name_of_methodNamed B.named B.method).1.trans hn) rfl
  have hl := lv_entry av (n := mx) hlen
  rw [lg_entry_eq]
  rw [hlv] at hl
  exact h9 s.heap [] _ hR1 hW1 xLe.rf xM.rf va_S.rf hl
theorem xEnterUA {y : MethodName} {cy : ByteArray} {mx rf rc rs rl : Nat} {l : Launch} {D : va_G} {kA : Nat → ClassId} {b0 : Nat} {t0 : Nat → Nat} {L : List (Nat × Nat)} {av : List Value} {S : xT} {g : xG} {post : Option Value → xT → xG → Nat → Nat → Prop} {rt : FieldType} (hrt : (∃ n, rt = .object n) ∨ ∃ t, rt = .array t) (hy : plainName y.cls = true) (hlen : (lg_sl av).length ≤ mx) (lv0 : List (Nat × Value)) (hlv : lv_args 0 av = lv0)
    (body : ∀ (K : xCx) (E : xEn), xK K E y.cls cy L mx rf rc rs rl → xRetUA K E cy rc rs post → E.2.2.2.1 = S → E.2.2.2.2.1 = g → (y.name = "<init>" → K.2.2.2.2.2.2.2.2.1.name = "<init>") → E.2.2.2.2.2.2.2 = t0 → X K E 0 lv0 [] S g 0 0) : xMu l y cy mx (some rt) rf rc rs rl D kA b0 t0 L av S g post := by
  refine Met.ofW (cc := cy) (maxL := mx) (ret := (some rt)) hy rfl ?_
  intro p e s m args below meth c s₁ B hml hv
  obtain ⟨rfl, hR1, hW1, hVK, hb0, hns, hal⟩ := hv
  have hr := B.returns
  have hts := atoms_spec (ws := Cond.code y cy mx (some rt) :: wsL_law) B.pre
  have hlocks := B.notSynchronized
  have hK : xK (p, l, e, (headSpec (Cond.code y cy mx (some rt) :: wsL_law) ({ frames := rf, cells := rc, slots := rs, locals := rl })).room, s, m, av.toArray, below, meth, c, MQ below (xQu D kA b0 L S g post) av.toArray s rc rs (fun q => b0 ≤ q)) (D, kA, b0, S, g, L, mx, t0) y.cls cy L mx rf rc rs rl :=
    ⟨B.exec, B.bytes, hml, findClass_of_methodNamed B.named, fun w h => hts w (List.mem_cons_of_mem _ h), hVK, hb0, hns, hal, rfl, rfl, rfl, rfl, rfl, rfl⟩
  have h9 := body _ _ hK (by
    intro pc lv v S1 g1 cells slots hd w1 hp hc1 hc2 H locs ls h1 h2 h3 h4 h5 h6 T9 hT9 X9
    have v1 := X9.same.2.2.1
    have v2 := fun b hb => xus_grow (b := b) X9.same hb
    change T9.heap.size ≤ _ at v1
    rw [hT9] at v1
    have v3 : ∀ b, b ≤ s.heap.size → xus H b ≤ xus s.heap b + slots := fun b hb => by have := v2 b hb; change xus T9.heap b ≤ _ at this; rw [hT9] at this; exact this
    refine W.widen hc1 hc2 ?_ T9 hT9 X9
    exact W.aret (v := v) hK.1 hK.2.1 hr hrt w1 (fun t ht hW => ⟨⟨_, S1, g1, cells, slots, rfl, hp, h3, h4, by rw [ht]; exact h1, h2, by rw [ht]; exact v1, fun b hb => by rw [ht]; exact v3 b hb⟩, h5.F ht⟩) h5.2.2 hd) rfl rfl (fun hn => (name_of_methodNamed B.named B.method).1.trans hn) rfl
  have hl := lv_entry av (n := mx) hlen
  rw [lg_entry_eq]
  rw [hlv] at hl
  exact h9 s.heap [] _ hR1 hW1 xLe.rf xM.rf va_S.rf hl
