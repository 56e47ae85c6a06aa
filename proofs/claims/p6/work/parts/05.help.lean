theorem wl_g {w : Cond} (h : w ∈ wsL_law) : w ∈ wsL_law ∧ ((w.onTables && w.keeps) = true ∨ ∃ ty, w = .arrayClass ty) := ⟨h, good_of_word (wl_good w h)⟩
theorem gw_I {y : MethodName} {cd : ByteArray} {mx : Nat} {rt : Option FieldType} (h : Cond.code y cd mx rt ∈ wsL_law) : GoodIn wsL_law (Cond.code y cd mx rt :: wsL_law) := fun w hw => (List.mem_cons.mp hw).elim (fun e => by rw [e]; exact wl_g h) (fun h => wl_g h)
theorem gw_V {own C : String} {idx : Nat} {y : MethodName} {cd : ByteArray} {mx : Nat} {rt : Option FieldType} (h1 : Cond.methodLink own idx y ∈ wsL_law) (h2 : Cond.instanceMethod y ∈ wsL_law) (h3 : Cond.selects C y y ∈ wsL_law) (h4 : Cond.initialized C ∈ wsL_law) (h5 : Cond.code y cd mx rt ∈ wsL_law) : GoodIn wsL_law (wsV own idx C y (Cond.code y cd mx rt :: wsL_law)) := by
  intro w hw
  unfold wsV at hw
  rcases List.mem_append.mp hw with h | h
  · simp only [List.mem_cons, List.not_mem_nil, or_false] at h
    rcases h with rfl | rfl | rfl | rfl
    · exact wl_g h1
    · exact wl_g h2
    · exact wl_g h3
    · exact wl_g h4
  · exact gw_I h5 w h
theorem gw_S {own : String} {idx : Nat} {y : MethodName} {cd : ByteArray} {mx : Nat} {rt : Option FieldType} (h1 : Cond.methodLink own idx y ∈ wsL_law) (h2 : Cond.static y ∈ wsL_law) (h3 : Cond.initialized y.cls ∈ wsL_law) (h5 : Cond.code y cd mx rt ∈ wsL_law) : GoodIn wsL_law (va_wsS own idx y (Cond.code y cd mx rt :: wsL_law)) := by
  intro w hw
  unfold va_wsS at hw
  rcases List.mem_append.mp hw with h | h
  · simp only [List.mem_cons, List.not_mem_nil, or_false] at h
    rcases h with rfl | rfl | rfl
    · exact wl_g h1
    · exact wl_g h2
    · exact wl_g h3
  · exact gw_I h5 w h
theorem fa_lt {x c : Int32} {n : Int} (h : x < c) (e : c.toInt = n) : x.toInt < n := e ▸ (Int32.lt_iff_toInt_lt.mp h)
theorem fa_nlt {x c : Int32} {n : Int} (h : ¬ x < c) (e : c.toInt = n) : n ≤ x.toInt := by
  rw [Int32.lt_iff_toInt_lt, e] at h; omega
theorem fa_le {x c : Int32} {n : Int} (h : x ≤ c) (e : c.toInt = n) : x.toInt ≤ n := e ▸ (Int32.le_iff_toInt_le.mp h)
theorem fa_nle {x c : Int32} {n : Int} (h : ¬ x ≤ c) (e : c.toInt = n) : n < x.toInt := by
  rw [Int32.le_iff_toInt_le, e] at h; omega
theorem fa_eq {x c : Int32} {n : Int} (h : x = c) (e : c.toInt = n) : x.toInt = n := by rw [h]; exact e
theorem fa_ne {x c : Int32} {n : Int} (h : ¬ x = c) (e : c.toInt = n) : x.toInt ≠ n := fun q => h (Int32.toInt.inj (q.trans e.symm))
theorem fb_lt {x c : Int32} {n : Int} (h : c < x) (e : c.toInt = n) : n < x.toInt := e ▸ (Int32.lt_iff_toInt_lt.mp h)
theorem fb_nlt {x c : Int32} {n : Int} (h : ¬ c < x) (e : c.toInt = n) : x.toInt ≤ n := by
  rw [Int32.lt_iff_toInt_lt, e] at h; omega
theorem fb_le {x c : Int32} {n : Int} (h : c ≤ x) (e : c.toInt = n) : n ≤ x.toInt := e ▸ (Int32.le_iff_toInt_le.mp h)
theorem fb_nle {x c : Int32} {n : Int} (h : ¬ c ≤ x) (e : c.toInt = n) : x.toInt < n := by
  rw [Int32.le_iff_toInt_le, e] at h; omega
theorem vin_c {i : Int32} {n : Nat} (h : (decide (i < 0) || Nat.ble n i.toNatClampNeg) = false) : vp_in i n := by
  intro q
  rcases q with q | q
  · simp [q] at h
  · have := Nat.ble_eq.mpr q
    simp [this] at h
theorem vin_lin {k x y : Int32} {K X Y n : Nat} (hk : k = nI K) (hx : vp_in x X) (hy : vp_in y Y) (h : K * (X - 1) + Y ≤ n) (hn : n < 2 ^ 31) (hX : X < 2 ^ 31) (hY : Y < 2 ^ 31) : vp_in (k * x + y) n := by
  obtain ⟨i, hi, rfl⟩ := vp_in_of hx hX
  obtain ⟨j, hj, rfl⟩ := vp_in_of hy hY
  rw [hk, pk_mul, nI_add]
  have h1 : K * i ≤ K * (X - 1) := Nat.mul_le_mul_left K (by omega)
  exact vp_in_nI (by omega) hn
theorem sw_cases (x : Int32) (n : Nat) (hi : Int) (h : (n : Int) = hi) : (∃ j : Nat, j ≤ n ∧ x = nI j) ∨ (x.toInt < 0 ∨ hi < x.toInt) := by
  by_cases h0 : x < 0
  · exact Or.inr (Or.inl (fa_lt h0 rfl))
  · obtain ⟨j, hj, rfl⟩ := nI_of h0
    by_cases h1 : j ≤ n
    · exact Or.inl ⟨j, h1, rfl⟩
    · refine Or.inr (Or.inr ?_)
      rw [nI_toInt hj, ← h]
      omega
theorem pl_rows (l : List Nat) (f : Nat → va_E) (v : va_E) : va_pl ([] ++ l) (vr_up f l v) = l.map (fun a => (a, v)) := by
  rw [List.nil_append]
  unfold va_pl
  exact List.map_congr_left (fun a ha => by rw [vr_up_in ha])
section PBH
variable {p : Program} {l : Launch} {e : Env} {R : Room} {s : State} {m : MethodId} {args : Array Value} {below : List Frame} {meth : Method} {c : Code} {H : Heap} {locs : List Loc} {cells slots : Nat} {Q : State → Prop}
variable {cc : ByteArray} {pc : Nat} {ls : Array Slot} {rest : List Value} {D : va_G} {cl : List vw_C} {A : Nat → Prop} {a : Nat} {tys : List (ClassId × FieldType)} {ws : va_W} {H0 : Heap}
theorem va_iastG (hexec : p.tables.exec = Jvm.exec) (hb : c.code = cc) (hK : va_K D cl tys s) (hP : va_P D cl ws H) (hD : va_D A ws) (hS : va_S A H0 H locs) (q0 t0 : Nat) {cA : ClassId} {n : Nat} {f : Nat → Int32} (ha : ws[q0]? = some (a, .inl (cA, n, .inl f))) (ht : tys[t0]? = some (cA, .int)) {i : Int32} {x : Int32} (hin : vp_in i n) (hdg : decode cc pc = .ok (.iastore, 1))
    (kk : ∀ (f' : Nat → Int32) (H1 : Heap) (locs1 : List Loc), va_P D cl (ws.set q0 (a, .inl (cA, n, .inl f'))) H1 → va_D A (ws.set q0 (a, .inl (cA, n, .inl f'))) → va_S A H0 H1 locs1 → W p l e R s m args below meth c H1 locs1 cells slots Q (F0 m (pc + 1) ls rest)) : W p l e R s m args below meth c H locs cells slots Q (F0 m pc ls (.int x :: .int i :: .ref a :: rest)) :=
  va_iast hexec hb hK hP hD hS q0 t0 ha ht hin hdg (fun H1 l1 h1 h2 h3 => kk _ H1 l1 h1 h2 h3)
theorem va_zastG (hexec : p.tables.exec = Jvm.exec) (hb : c.code = cc) (hK : va_K D cl tys s) (hP : va_P D cl ws H) (hD : va_D A ws) (hS : va_S A H0 H locs) (q0 t0 : Nat) {cA : ClassId} {n : Nat} {f : Nat → Int32} (ha : ws[q0]? = some (a, .inl (cA, n, .inl f))) (ht : tys[t0]? = some (cA, .boolean)) {i : Int32} {x : Int32} (hin : vp_in i n) (hdg : decode cc pc = .ok (.bastore, 1))
    (kk : ∀ (f' : Nat → Int32) (H1 : Heap) (locs1 : List Loc), va_P D cl (ws.set q0 (a, .inl (cA, n, .inl f'))) H1 → va_D A (ws.set q0 (a, .inl (cA, n, .inl f'))) → va_S A H0 H1 locs1 → W p l e R s m args below meth c H1 locs1 cells slots Q (F0 m (pc + 1) ls rest)) : W p l e R s m args below meth c H locs cells slots Q (F0 m pc ls (.int x :: .int i :: .ref a :: rest)) :=
  va_zast hexec hb hK hP hD hS q0 t0 ha ht hin hdg (fun H1 l1 h1 h2 h3 => kk _ H1 l1 h1 h2 h3)
theorem pb_aald (hexec : p.tables.exec = Jvm.exec) (hb : c.code = cc) (hK : va_K D cl tys s) (hP : va_P D cl ws H) (q0 t0 : Nat) {cA : ClassId} {t : FieldType} {n : Nat} {f : Nat → Option Nat} (ha : ws[q0]? = some (a, .inl (cA, n, .inr (.inr (.inr (.inr f)))))) (ht : tys[t0]? = some (cA, .array t)) {i : Int32} (hin : vp_in i n) (hdg : decode cc pc = .ok (.aaload, 1))
    {v : Nat} (hv : f i.toNatClampNeg = some v)
    (kk : W p l e R s m args below meth c H locs cells slots Q (F0 m (pc + 1) ls (.ref v :: rest))) : W p l e R s m args below meth c H locs cells slots Q (F0 m pc ls (.int i :: .ref a :: rest)) := by
  have hlt : i.toNatClampNeg < n := Nat.not_le.mp fun q => hin (Or.inr q)
  exact W.aald (v := .ref v) (ty := .array t) hexec hb (hP q0 _ ha) ((hK.2 t0 _ ht).1 n (fun j => va_rf (f j))) rfl (fun q => by cases q) (by show ¬ (i < 0 ∨ (arrV _ _ _).slots.size ≤ _); rw [arrV_size]; exact hin) (by show (arrV _ _ _).slots[_]? = _; rw [arrV_read _ _ hlt, hv]; rfl) rfl rfl hdg kk
theorem pb_mna (hexec : p.tables.exec = Jvm.exec) (hb : c.code = cc) {own : String} {index : Nat} {cy : ClassId} (hown : s.vm.findClass own = some m.cls) (hclink : (Cond.classLink own index "[[I").before args s = true) (hover : va_AOA .int s) (harr : (Cond.arrayClass .int).before args s = true) (t1 : Nat) (hcy : tys[t1]? = some (cy, .int))
    (hK : va_K D cl tys s) (hP : va_P D cl ws H) (hD : va_D A ws) (hS : va_S A H0 H locs) (hA : ∀ q, H0.size ≤ q → A q) {n k : Int32} {N' K' : Nat} (hn : ¬ n < 0) (hk : ¬ k < 0) (hN : n.toNatClampNeg = N') (hM : k.toNatClampNeg = K')
    (hb1 : N' * 4 ≤ 536870912) (hb2 : K' * 4 ≤ 536870912) (hcells : cells + (1 + N') ≤ R.cells) (hslots : slots + (N' + N' * K') ≤ R.slots) (hdg : decode cc pc = .ok (.multianewarray index 2, 4))
    (kk : ∀ (q : Nat) (r : Nat → Nat) (cA : ClassId) (H1 : Heap), va_K D cl (tys ++ [(cA, .array .int)]) s →
      va_P D cl ((ws ++ [(q, .inl (cA, N', .inr (.inr (.inr (.inr (fun i => if i < N' then some (r i) else none))))))]) ++ ((List.range N').map r).map (fun a => (a, .inl (cy, K', .inl (fun _ => 0))))) H1 → va_D A ((ws ++ [(q, .inl (cA, N', .inr (.inr (.inr (.inr (fun i => if i < N' then some (r i) else none))))))]) ++ ((List.range N').map r).map (fun a => (a, .inl (cy, K', .inl (fun _ => 0))))) → va_S A H0 H1 locs →
      W p l e R s m args below meth c H1 locs (cells + 1 + N') (slots + N' + N' * K') Q (F0 m (pc + 4) ls (.ref q :: rest))) : W p l e R s m args below meth c H locs cells slots Q (F0 m pc ls (.int k :: .int n :: rest)) := by
  have e0 : ws ++ va_pl [] (fun _ => (.inr (0, []) : va_E)) = ws := List.append_nil ws
  refine va_mna (X := ws) (L := []) (f := fun _ => .inr (0, [])) (ty := .int) (cy := cy) (z := (K', .inl (fun _ => 0))) hexec hb hown hclink hover harr ((hK.2 t1 _ hcy).2) hK (by rw [e0]; exact hP) (by rw [e0]; exact hD) hS hA hn hk hN hM hb1 hb2 (by omega) rfl rfl hcells hslots (fun c9 => by show ({ cls := c9, slots := Array.replicate K' (Value.int 0), vm := .none } : Cell) = _; rw [arrV_new]; rfl) hdg (fun q r cA H1 _ _ h1 h2 h3 h4 => ?_)
  rw [pl_rows] at h2 h3
  exact kk q r cA H1 h1 h2 h3 h4
end PBH
def nstL : List (String × Nat × MethodName × String) := [(RX11, 9, yX9_init, "PaperBoys"), (RX11, 18, yX5_init, "PaperBoys"), (RX11, 30, yX4_init, "PaperBoys"), (RX11, 44, yX10_init, "PaperBoys"), (RX11, 51, yX7_init, "PaperBoys"), (RX11, 61, yX2_init, "PaperBoys"), (RX11, 68, yX8_init, "PaperBoys"), (RX11, 75, yX6_init, "PaperBoys")]
def nst (U : State) : Prop := (∀ q ∈ nstL, va_Nw (.methodLinkNest q.1 q.2.1 q.2.2.1 q.2.2.2) U) ∧ va_AOA .int U ∧ va_AO "java/lang/Object" U ∧ va_Nw (.castable RX0 "java/lang/Object") U ∧ va_Nw (.castable RX10 "java/lang/Object") U
theorem nst_same {u U : State} (h : u.vm = U.vm) (hn : nst u) : nst U := ⟨fun q hq => va_Nw.same rfl h (hn.1 q hq), va_AOA.moved (h ▸ Vm.Alike.refl u.vm) hn.2.1, va_AO.moved (h ▸ Vm.Alike.refl u.vm) hn.2.2.1, va_Nw.same rfl h hn.2.2.2.1, va_Nw.same rfl h hn.2.2.2.2⟩
theorem nst_warm {s U : State} (hW : s.WarmedH U.vm) (hn : nst s) : nst U := ⟨fun q hq => va_Nw.warmM hW (hn.1 q hq), va_AOA.moved hW.alike hn.2.1, va_AO.moved hW.alike hn.2.2.1, va_Nw.warmC hW hn.2.2.2.1, va_Nw.warmC hW hn.2.2.2.2⟩
theorem nst_X11_9 {U : State} (h : nst U) : va_Nw (.methodLinkNest RX11 9 yX9_init "PaperBoys") U := h.1 (RX11, 9, yX9_init, "PaperBoys") (List.mem_of_getElem? (i := 0) rfl)
theorem nst_X11_18 {U : State} (h : nst U) : va_Nw (.methodLinkNest RX11 18 yX5_init "PaperBoys") U := h.1 (RX11, 18, yX5_init, "PaperBoys") (List.mem_of_getElem? (i := 1) rfl)
theorem nst_X11_30 {U : State} (h : nst U) : va_Nw (.methodLinkNest RX11 30 yX4_init "PaperBoys") U := h.1 (RX11, 30, yX4_init, "PaperBoys") (List.mem_of_getElem? (i := 2) rfl)
theorem nst_X11_44 {U : State} (h : nst U) : va_Nw (.methodLinkNest RX11 44 yX10_init "PaperBoys") U := h.1 (RX11, 44, yX10_init, "PaperBoys") (List.mem_of_getElem? (i := 3) rfl)
theorem nst_X11_51 {U : State} (h : nst U) : va_Nw (.methodLinkNest RX11 51 yX7_init "PaperBoys") U := h.1 (RX11, 51, yX7_init, "PaperBoys") (List.mem_of_getElem? (i := 4) rfl)
theorem nst_X11_61 {U : State} (h : nst U) : va_Nw (.methodLinkNest RX11 61 yX2_init "PaperBoys") U := h.1 (RX11, 61, yX2_init, "PaperBoys") (List.mem_of_getElem? (i := 5) rfl)
theorem nst_X11_68 {U : State} (h : nst U) : va_Nw (.methodLinkNest RX11 68 yX8_init "PaperBoys") U := h.1 (RX11, 68, yX8_init, "PaperBoys") (List.mem_of_getElem? (i := 6) rfl)
theorem nst_X11_75 {U : State} (h : nst U) : va_Nw (.methodLinkNest RX11 75 yX6_init "PaperBoys") U := h.1 (RX11, 75, yX6_init, "PaperBoys") (List.mem_of_getElem? (i := 7) rfl)
def als (t : Nat) (A : Nat → Prop) (U : State) (H : Heap) : Prop := va_Z "java/util/ArrayList" "DEFAULTCAPACITY_EMPTY_ELEMENTDATA" "[Ljava/lang/Object;" (.ref t) A U H ∧ va_T (.object "java/lang/Object") t 0 (fun _ => .null) A U H
theorem als.moved {t : Nat} {A : Nat → Prop} {u U : State} {H : Heap} (hvm : u.vm.Alike U.vm) (h : als t A u H) : als t A U H := ⟨va_Z.moved hvm h.1, va_T.moved hvm h.2⟩
theorem als.kept {t : Nat} {A : Nat → Prop} {U : State} {H H1 : Heap} (h : als t A U H) (hq : ∀ a : Nat, a < H.size → ¬ A a → H1[a]? = H[a]?) : als t A U H1 := ⟨va_Z.kept h.1 hq, va_T.kept h.2 hq⟩
theorem als.narrow {t : Nat} {A B : Nat → Prop} {U : State} {H : Heap} (h : als t A U H) (hAB : ∀ q, B q → A q) : als t B U H := ⟨va_Z.narrow h.1 hAB, va_T.narrow h.2 hAB⟩
theorem sq_ne {p : Int32} {P : Prop} (h1 : 1 ≤ p.toInt) (h2 : p.toInt ≤ 8) (h : (2 * p) * p = 0) : P := by
  have h0 : ¬ p < 0 := fun q => by have := fa_lt (n := 0) q (by decide); omega
  obtain ⟨j, hj, rfl⟩ := nI_of h0
  rw [nI_toInt hj] at h1 h2
  have hc : j = 1 ∨ j = 2 ∨ j = 3 ∨ j = 4 ∨ j = 5 ∨ j = 6 ∨ j = 7 ∨ j = 8 := by omega
  rcases hc with rfl | rfl | rfl | rfl | rfl | rfl | rfl | rfl <;> exact absurd h (by decide)
