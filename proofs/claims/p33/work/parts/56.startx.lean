
theorem x1all {P : Nat → Prop} (h : P 0) : ∀ i : Nat, i < 1 → P i := fun i hi => by
  have e : i = 0 := by omega
  rw [e]
  exact h
set_option maxRecDepth 40000 in
set_option maxHeartbeats 4000000 in
theorem law_bytes : ∀ j : Nat, j < 114 → (Cond.eq (.elem (.field (.string "PaperBoys$Reader" 98) "java/lang/String" "value" "[B") (.int (Int32.ofNat j))) (.int (wdB.getD j 0))) ∈ flatC (Jvm.Cond.and given_1 narrow_1) := by decide +kernel
set_option maxRecDepth 40000 in
set_option maxHeartbeats 4000000 in
theorem law_env {args : Array Value} {s : State} (hts : ∀ w ∈ lw_tbl, w.before args s = true) (hgv : (Jvm.Cond.and given_1 narrow_1).before args s = true) : ∃ t0 : Nat → Nat, xWd t0 s ∧ xSt t0 (fun q : Nat => s.heap.size ≤ q) s s.heap ∧ ∃ cell : Cell, s.heap[t0 0]? = some cell ∧ s.vm.findClass "[Ljava/lang/Object;" = some cell.cls ∧ (∀ k, cell.vm ≠ .statics k) ∧ cell.vm.isStatics = false ∧ cell.slots.size.toInt32 = Int32.ofNat 0 := by
  have hs := flat_of_before _ hgv
  have hA : ∀ a : Nat, a < s.heap.size → ¬ (fun q : Nat => s.heap.size ≤ q) a := fun a h q => absurd q (Nat.not_le.mpr h)
  have d1 : (Cond.arrayOf (.static "java/util/ArrayList" "DEFAULTCAPACITY_EMPTY_ELEMENTDATA" "[Ljava/lang/Object;") (.object "java/lang/Object")).before args s = true := hs _ (by decide +kernel)
  have d2 : (Cond.eq (.length (.static "java/util/ArrayList" "DEFAULTCAPACITY_EMPTY_ELEMENTDATA" "[Ljava/lang/Object;")) (.int 0)).before args s = true := hs _ (by decide +kernel)
  obtain ⟨t, ht, hT⟩ := va_Tof (N := 0) (f := fun _ => .null) (by decide) d1 (va_eqt d2) (fun j hj => absurd hj (Nat.not_lt_zero j)) hA
  have hAl : als t (fun q : Nat => s.heap.size ≤ q) s s.heap := ⟨va_Zref (hts _ (tb_1 _ (List.mem_of_getElem? (i := 120) rfl))) (hts (Cond.initialized "java/util/ArrayList") (tb_1 _ (List.mem_of_getElem? (i := 7) rfl))) ht hA, hT⟩
  obtain ⟨a9, c9, cell9, k9, x1, x2, x3, -, x5, x6, -⟩ := Cond.exactly_spec (hs (Cond.exactly (.static "java/util/ArrayList" "DEFAULTCAPACITY_EMPTY_ELEMENTDATA" "[Ljava/lang/Object;") "[Ljava/lang/Object;") (by decide +kernel))
  have ea : a9 = t := by have h9 := x1.symm.trans ht; cases h9; rfl
  subst ea
  obtain ⟨cell, y1, y2, -, -, y5, -⟩ := id hT
  have ec : cell9 = cell := Option.some.inj (x3.symm.trans y1)
  subst ec
  have w1 : (Cond.arrayOf (.static "PaperBoys" "WITHOUT_LINE" "[I") .int).before args s = true := hs _ (by decide +kernel)
  have w2 : (Cond.eq (.length (.static "PaperBoys" "WITHOUT_LINE" "[I")) (.int 6)).before args s = true := hs _ (by decide +kernel)
  obtain ⟨t1, ht1, hT1⟩ := va_Tof (N := 6) (f := fun k => .int (Int32.ofInt (wl0 k))) (by decide) w1 (va_eqt w2) (fun j hj => match j, hj with | 0, _ => (va_eqt (hs (Cond.eq (.elem (.static "PaperBoys" "WITHOUT_LINE" "[I") (.int 0)) (.int 60)) (by decide +kernel))) | 1, _ => (va_eqt (hs (Cond.eq (.elem (.static "PaperBoys" "WITHOUT_LINE" "[I") (.int 1)) (.int 1)) (by decide +kernel))) | 2, _ => (va_eqt (hs (Cond.eq (.elem (.static "PaperBoys" "WITHOUT_LINE" "[I") (.int 2)) (.int 0)) (by decide +kernel))) | 3, _ => (va_eqt (hs (Cond.eq (.elem (.static "PaperBoys" "WITHOUT_LINE" "[I") (.int 3)) (.int 200)) (by decide +kernel))) | 4, _ => (va_eqt (hs (Cond.eq (.elem (.static "PaperBoys" "WITHOUT_LINE" "[I") (.int 4)) (.int 1)) (by decide +kernel))) | 5, _ => (va_eqt (hs (Cond.eq (.elem (.static "PaperBoys" "WITHOUT_LINE" "[I") (.int 5)) (.int 100)) (by decide +kernel))) | n + 6, h => absurd h (by omega)) hA
  obtain ⟨mi, hMi⟩ := va_Mi.of (hs (Cond.isRef (.mirror "[Ljava/lang/Object;")) (by decide +kernel))
  obtain ⟨adK, adV, hSt, hev⟩ := vk_Sof (N := 1) (tm := fun _ => (.string "PaperBoys$Reader" 98)) (len := [114]) (byt := [wdB]) (A := fun q : Nat => s.heap.size ≤ q) (x1all (by decide)) (x1all (hs (Cond.exactly (.string "PaperBoys$Reader" 98) "java/lang/String") (by decide +kernel))) (x1all (hs (Cond.eq (.field (.string "PaperBoys$Reader" 98) "java/lang/String" "coder" "B") (.int 0)) (by decide +kernel)))
    (x1all (hs (Cond.arrayOf (.field (.string "PaperBoys$Reader" 98) "java/lang/String" "value" "[B") .byte) (by decide +kernel))) (x1all (hs (Cond.eq (.length (.field (.string "PaperBoys$Reader" 98) "java/lang/String" "value" "[B")) (.int 114)) (by decide +kernel)))
    (x1all (fun j hj => hs _ (law_bytes j hj)))
    (fun i j hi hj hne => absurd (show i = j by omega) hne) hA
  refine ⟨fun k => if k = 0 then a9 else if k = 1 then t1 else if k = 2 then mi else if k = 3 then adK 0 else adV 0, ⟨law_nst hts, List.forall_mem_cons.mpr ⟨va_Nw.of rfl (hts _ (tb_4 _ (List.mem_of_getElem? (i := 27) rfl))), List.forall_mem_cons.mpr ⟨va_Nw.of rfl (hts _ (tb_4 _ (List.mem_of_getElem? (i := 120) rfl))), List.forall_mem_cons.mpr ⟨va_Nw.of rfl (hts _ (tb_4 _ (List.mem_of_getElem? (i := 184) rfl))), List.forall_mem_cons.mpr ⟨va_Nw.of rfl (hts _ (tb_4 _ (List.mem_of_getElem? (i := 187) rfl))), List.forall_mem_cons.mpr ⟨va_Nw.of rfl (hts _ (tb_5 _ (List.mem_of_getElem? (i := 16) rfl))), List.forall_mem_cons.mpr ⟨va_Nw.of rfl (hts _ (tb_5 _ (List.mem_of_getElem? (i := 18) rfl))), List.forall_mem_cons.mpr ⟨va_Nw.of rfl (hts _ (tb_5 _ (List.mem_of_getElem? (i := 19) rfl))), fun _ h => absurd h List.not_mem_nil⟩⟩⟩⟩⟩⟩⟩, va_Nw.of rfl (hts _ (tb_8 _ (List.mem_of_getElem? (i := 196) rfl))), va_Dc.of (hts _ (tb_8 _ (List.mem_of_getElem? (i := 202) rfl))), va_Nw.of rfl (hts _ (tb_4 _ (List.mem_of_getElem? (i := 117) rfl))), vk_R.of (hts _ (tb_3 _ (List.mem_of_getElem? (i := 150) rfl))) (hev 0 (by decide))⟩, ⟨hAl, va_Zref (hts _ (tb_4 _ (List.mem_of_getElem? (i := 118) rfl))) (hts (Cond.initialized "PaperBoys") (tb_1 _ (List.mem_of_getElem? (i := 1) rfl))) ht1 hA, hT1, hMi, ⟨x1all (hSt.1 0 (by decide)), fun i j hi hj _ => by omega⟩, va_Zof (hts _ (tb_3 _ (List.mem_of_getElem? (i := 160) rfl))) (hts (Cond.initialized "java/lang/String") (tb_1 _ (List.mem_of_getElem? (i := 22) rfl))) (va_eqt (hs (Cond.eq (.static "java/lang/String" "COMPACT_STRINGS" "Z") (.int 1)) (by decide +kernel))) hA, va_Zqof (hts _ (tb_3 _ (List.mem_of_getElem? (i := 176) rfl))) (hts (Cond.initialized "jdk/internal/util/Preconditions") (tb_1 _ (List.mem_of_getElem? (i := 21) rfl))) (hs (Cond.isRef (.static "jdk/internal/util/Preconditions" "SIOOBE_FORMATTER" "Ljava/util/function/BiFunction;")) (by decide +kernel)) hA⟩, cell9, x3, by rw [x6]; exact x2, y2.1, x5, y5⟩
def R_law : String := "PaperBoysLaw"
def lw_P (b : Addr) (xs : List Int32) (args : Array Value) (s : State) : Prop := args = #[.ref b] ∧ s.IntsAt b xs ∧ xs.length ≤ 3072 ∧ (Jvm.Cond.and given_1 narrow_1).before args s = true
def lw_Q (_ : Array Value) (s : State) (o : Outcome) (t : State) : Prop := o = .returned (some (.int 1)) ∧ Framed s o t [] 601024 7293034
def lw_Z (below : List Frame) (a : Array Value) (s : State) : State → Prop := fun t => ∃ o, t.status = .running ∧ Ended t below o ∧ lw_Q a s o t
theorem lw_ret {p : Program} {l : Launch} {e : Env} {s : State} {m : MethodId} {below : List Frame} {meth : Method} {c : Code} {b : Nat} (hx : p.tables.exec = Jvm.exec) (hb : c.code = code) (hr : meth.sig.returnType = ret) (hlocks : meth.locks = false) {pc : Nat} {H : Heap} {ls : Array Slot} (hdg : decode code pc = .ok (.ireturn, 1)) : W p l e room_1 s m #[Value.ref b] below meth c H [] 601024 7293034 (lw_Z below #[Value.ref b] s) (F0 m pc ls [.int 1]) := by
  intro T hT X
  obtain ⟨fs, hret, hrun, hended, hW, hframe⟩ := X.leave (v := some (.int 1)) (hlocks := hlocks) (fun h => by rw [hr] at h; cases h)
  have hmeth' : T.vm.method? m = some meth := X.method'
  refine ⟨T.setFrames fs, ?_, .returned (some (.int 1)), hrun, hended, rfl, ⟨_, rfl⟩, hW, hframe⟩
  jvm_step X.here [X.here.top, hx, hb, hdg, hmeth', hr, ret, narrow_b1]
  (try refine ⟨rfl, ?_⟩); (try refine ⟨rfl, ?_⟩)
  first | (intro acts; rw [hret _ acts rfl rfl rfl]) | rw [hret _ _ rfl rfl rfl]
  exact Steps.refl _
def lw_At (p : Program) (s : State) (m : MethodId) (meth : Method) (c : Code) (b L : Nat) (xs : Nat → Int32) : Prop :=
  p.tables.exec = Jvm.exec ∧ c.code = code ∧ meth.sig.returnType = ret ∧ c.maxLocals = 7 ∧ s.vm.findClass R_law = some m.cls ∧ (∀ w ∈ lw_tbl, w.before #[Value.ref b] s = true) ∧ va_X b L xs s s.heap ∧ b < s.heap.size ∧ meth.locks = false ∧ (Jvm.Cond.and given_1 narrow_1).before #[Value.ref b] s = true
set_option maxHeartbeats 8000000 in
set_option maxRecDepth 100000 in
theorem whole_start {p : Program} {e : Env} {s : State} {m : MethodId} {below : List Frame} {meth : Method} {c : Code} (l : Launch) (hst : l.stackTraces = false) {b L : Nat} {xs : Nat → Int32} (hL : L ≤ 3072) (C0 : lw_At p s m meth c b L xs) : W p l e room_1 s m #[Value.ref b] below meth c s.heap [] 0 0 (lw_Z below #[Value.ref b] s) (entryFrame m ([Value.ref b] : List Value).toArray 7) := by
  obtain ⟨hx, hb, hr, hml, hown, hts, hX, hbl, hlocks, hgv⟩ := id C0
  have hws : ∀ w ∈ wsL_law, w.before #[Value.ref b] s = true := fun w h => hts w (wl_in w h)
  obtain ⟨t0, hWd, hSt, cell, hc1, hc2, hc3, hc4, hc5⟩ := law_env hts hgv
  obtain ⟨hT, hp3⟩ := law_tsr hts hgv
  obtain ⟨kc0, iS0, hKn0⟩ := u_known (C := RJx4a65c) (T := TJx4a65c) (N := 3) (n := 3) hts (fun w h => wl_in w (inlJx4a65c w h)) (hws _ m_2_4)
  obtain ⟨kc1, iS1, hKn1⟩ := u_known (C := RX0) (T := TX0) (N := 6) (n := 6) hts (fun w h => wl_in w (inlX0 w h)) (hws _ m_12_1)
  obtain ⟨kc2, iS2, hKn2⟩ := u_known (C := RX1) (T := TX1) (N := 11) (n := 11) hts (fun w h => wl_in w (inlX1 w h)) (hws _ m_32_23)
  obtain ⟨kc3, iS3, hKn3⟩ := u_known (C := RX2) (T := TX2) (N := 4) (n := 4) hts (fun w h => wl_in w (inlX2 w h)) (hws _ m_2_17)
  obtain ⟨kc4, iS4, hKn4⟩ := u_known (C := RX3) (T := TX3) (N := 7) (n := 7) hts (fun w h => wl_in w (inlX3 w h)) (hws _ m_3_21)
  obtain ⟨kc5, iS5, hKn5⟩ := u_known (C := RX4) (T := TX4) (N := 4) (n := 4) hts (fun w h => wl_in w (inlX4 w h)) (hws _ m_2_0)
  obtain ⟨kc6, iS6, hKn6⟩ := u_known (C := RX5) (T := TX5) (N := 8) (n := 8) hts (fun w h => wl_in w (inlX5 w h)) (hws _ m_1_18)
  obtain ⟨kc7, iS7, hKn7⟩ := u_known (C := RX6) (T := TX6) (N := 10) (n := 10) hts (fun w h => wl_in w (inlX6 w h)) (hws _ m_3_1)
  obtain ⟨kc8, iS8, hKn8⟩ := u_known (C := RX7) (T := TX7) (N := 7) (n := 7) hts (fun w h => wl_in w (inlX7 w h)) (hws _ m_2_12)
  obtain ⟨kc9, iS9, hKn9⟩ := u_known (C := RX8) (T := TX8) (N := 6) (n := 6) hts (fun w h => wl_in w (inlX8 w h)) (hws _ m_2_21)
  obtain ⟨kc10, iS10, hKn10⟩ := u_known (C := RX9) (T := TX9) (N := 2) (n := 2) hts (fun w h => wl_in w (inlX9 w h)) (hws _ m_1_14)
  obtain ⟨kc11, iS11, hKn11⟩ := u_known (C := RX10) (T := TX10) (N := 8) (n := 8) hts (fun w h => wl_in w (inlX10 w h)) (hws _ m_2_8)
  obtain ⟨kc12, iS12, hKn12⟩ := u_known (C := RX11) (T := TX11) (N := 18) (n := 18) hts (fun w h => wl_in w (inlX11 w h)) (hws _ m_1_1)
  obtain ⟨kc13, iS13, hKn13⟩ := u_known (C := RX12) (T := TX12) (N := 91) (n := 91) hts (fun w h => wl_in w (inlX12 w h)) (hws _ m_1_4)
  obtain ⟨dC, dI, hKc⟩ : ∃ (dC : Nat → ClassId) (dI : Nat → Nat → Nat), ∀ (k : Nat) (q : vw_C), vwCl[k]? = some q → u_Kn s q.1 q.2.1 q.2.2 (dC k) (dI k) := by
    refine ⟨fun k => if k = 0 then kc0 else if k = 1 then kc1 else if k = 2 then kc2 else if k = 3 then kc3 else if k = 4 then kc4 else if k = 5 then kc5 else if k = 6 then kc6 else if k = 7 then kc7 else if k = 8 then kc8 else if k = 9 then kc9 else if k = 10 then kc10 else if k = 11 then kc11 else if k = 12 then kc12 else kc13, fun k => if k = 0 then iS0 else if k = 1 then iS1 else if k = 2 then iS2 else if k = 3 then iS3 else if k = 4 then iS4 else if k = 5 then iS5 else if k = 6 then iS6 else if k = 7 then iS7 else if k = 8 then iS8 else if k = 9 then iS9 else if k = 10 then iS10 else if k = 11 then iS11 else if k = 12 then iS12 else iS13, ?_⟩
    intro k q hq
    match k, hq with
    | 0, hq => cases hq; exact hKn0
    | 1, hq => cases hq; exact hKn1
    | 2, hq => cases hq; exact hKn2
    | 3, hq => cases hq; exact hKn3
    | 4, hq => cases hq; exact hKn4
    | 5, hq => cases hq; exact hKn5
    | 6, hq => cases hq; exact hKn6
    | 7, hq => cases hq; exact hKn7
    | 8, hq => cases hq; exact hKn8
    | 9, hq => cases hq; exact hKn9
    | 10, hq => cases hq; exact hKn10
    | 11, hq => cases hq; exact hKn11
    | 12, hq => cases hq; exact hKn12
    | 13, hq => cases hq; exact hKn13
    | k + 14, hq => simp [vwCl] at hq
  obtain ⟨a0, k0, m0, p0, q0, r0⟩ := Cond.arrayClass_spec (hws _ m_3_14)
  obtain ⟨a1, k1, m1, p1, q1, r1⟩ := Cond.arrayClass_spec (hws _ m_7_18)
  obtain ⟨a2, k2, m2, p2, q2, r2⟩ := Cond.arrayClass_spec (hws _ m_1_6)
  obtain ⟨m3, a3, k3, p3, -, q3, r3, s3⟩ := Cond.arrayOver_spec (law_nst hts).2.2.1
  obtain ⟨m4, a4, k4, p4, q4, r4, s4⟩ := Cond.arrayOver_specA (law_nst hts).2.1
  obtain ⟨kA, e0, e1, e2, e3, e4⟩ : ∃ kA : Nat → ClassId, kA 0 = a0 ∧ kA 1 = a1 ∧ kA 2 = a2 ∧ kA 3 = a3 ∧ kA 4 = a4 := ⟨fun k => if k = 0 then a0 else if k = 1 then a1 else if k = 2 then a2 else if k = 3 then a3 else a4, rfl, rfl, rfl, rfl, rfl⟩
  have hVK : va_K (dC, dI) vwCl (xtys kA) s := by
    refine ⟨hKc, fun k q hq => ?_⟩
    match k, hq with
    | 0, hq => cases hq; exact ⟨fun N9 z9 => ⟨(fun q hq => by cases hq), k0, by rw [e0]; exact q0, m0, r0⟩, by rw [e0]; exact p0⟩
    | 1, hq => cases hq; exact ⟨fun N9 z9 => ⟨(fun q hq => by cases hq), k1, by rw [e1]; exact q1, m1, r1⟩, by rw [e1]; exact p1⟩
    | 2, hq => cases hq; exact ⟨fun N9 z9 => ⟨(fun q hq => by cases hq), k2, by rw [e2]; exact q2, m2, r2⟩, by rw [e2]; exact p2⟩
    | 3, hq => cases hq; exact ⟨fun N9 z9 => ⟨(fun q hq => by cases hq), k3, by rw [e3]; exact q3, m3, r3⟩, ⟨k3, m3, by rw [e3]; exact q3, r3, p3, by rw [e3]; exact s3⟩⟩
    | 4, hq => cases hq; exact ⟨fun N9 z9 => ⟨(fun q hq => by cases hq), k4, by rw [e4]; exact q4, m4, r4⟩, by rw [e4]; exact s4⟩
    | k + 5, hq => simp [xtys] at hq
  have ecl : cell.cls = kA 3 := by
    rw [e3]
    exact Option.some.inj (hc2.symm.trans s3)
  obtain ⟨S, hS⟩ : ∃ S : xT, S = fun a => if a = t0 0 then some (20003, 0) else none := ⟨_, rfl⟩
  have hS0 : ∀ a t n, S a = some (t, n) → a = t0 0 ∧ t = 20003 ∧ n = 0 := fun a t n h => by
    rw [hS] at h
    by_cases e : a = t0 0
    · simp only [e, if_true] at h; cases h; exact ⟨e, rfl, rfl⟩
    · simp only [e, if_false] at h; cases h
  have hem : S (t0 0) = some (20003, 0) := by rw [hS]; exact if_pos rfl
  have hR : xR (dC, dI) kA s.heap.size S (fun _ _ => .null) s.heap := fun a t n h => by
    obtain ⟨rfl, rfl, rfl⟩ := hS0 a t n h
    exact ⟨Or.inr (by decide), Or.inr ⟨by decide, Or.inr ⟨by decide, rfl, cell, hc1, ecl, hc3, hc4, hc5⟩⟩⟩
  have hW : xW S (fun _ _ => .null) := fun a t n h k hk => by
    obtain ⟨rfl, rfl, rfl⟩ := hS0 a t n h
    omega
  have hab : xAb S := fun a t n h => by
    obtain ⟨-, rfl, -⟩ := hS0 a t n h
    decide
  have hsi : xSi S t0 := ⟨fun c9 m9 h => (hS0 _ _ _ h).1, fun b9 m9 h => by have := (hS0 _ _ _ h).2.1; omega⟩
  have hK : xK (p, l, e, room_1, s, m, #[Value.ref b], below, meth, c, lw_Z below #[Value.ref b] s) ((dC, dI), kA, s.heap.size, S, (fun _ _ => .null), xLW, 7, t0) RL cL_law xLW 7 2048 601024 7293034 84000 := ⟨hx, hb, hml, hown, hws, hVK, Nat.le_refl _, hWd, hSt, rfl, rfl, rfl, rfl, rfl, rfl⟩
  have hl := lv_entry ([.ref b]) (n := 7) (Nat.le_of_ble_eq_true rfl)
  rw [lg_entry_eq]
  refine law_X (L := L) (xs := xs) hst hK hts hT hp3 (fun pc lv S1 g1 cells slots hd q1 q2 H locs ls h1 h2 h3 h4 h5 h6 => ?_) hL hX hbl (Nat.not_le.mpr hbl) hem hab hsi s.heap [] _ hR hW xLe.rf xM.rf va_S.rf hl
  refine va_forget (fun q hq => h5.2.2 q hq) ?_
  refine W.widen q1 q2 ?_
  exact lw_ret hx hb hr hlocks hd
set_option maxHeartbeats 4000000 in
theorem lw_walk (l : Launch) (hst : l.stackTraces = false) (b : Addr) (xs : List Int32) : MetFree l x (headSpec (Jvm.Cond.code x code maxLocals ret :: tables_1) room_1) (lw_P b xs) (fun _ _ _ _ _ => True) lw_Q := by
  refine MetFree.of_bodyS (code := code) (maxLocals := maxLocals) (ret := ret) (by decide) ?_ ?_
  · intro args s m h hn
    obtain ⟨meth, c, h1, h2, h3, h4, h5, h6, -, -⟩ := Cond.code_spec hn (atoms_spec (ws := Jvm.Cond.code x code maxLocals ret :: tables_1) h _ List.mem_cons_self)
    exact ⟨meth, c, h1, h2, h3, h4, h5, h6⟩
  · intro p e s m args below meth c s₁ B hml0 hP _
    obtain ⟨rfl, hx, hbd, hgv⟩ := hP
    obtain ⟨scr, harrAt, hlist, hof, hsmall⟩ := hx
    obtain ⟨hcb, hkn, -, -⟩ := State.arrayAt?_spec harrAt
    have hown : s.vm.findClass R_law = some m.cls := findClass_of_methodNamed B.named
    have hts0 : ∀ c ∈ (Jvm.Cond.code x code maxLocals ret :: tables_1), c.before #[Value.ref b] s = true := atoms_spec (ws := Jvm.Cond.code x code maxLocals ret :: tables_1) B.pre
    have hts : ∀ w ∈ lw_tbl, w.before #[Value.ref b] s = true := k2_hts_sels lw_privs (fun w hw => hts0 w (List.mem_cons_of_mem _ hw)) lw_privs_ok
    have hml : c.maxLocals = 7 := B.maxLocals_eq (hts0 _ List.mem_cons_self)
    have X₀ : Stand p l e room_1 s m #[Value.ref b] below meth c s₁ [] 0 0 := Stand.of_body B
    have hh0 : s₁.heap = s.heap := by rw [B.state]; rfl
    have hsz : scr.slots.size = xs.length := by rw [← Array.length_toList, hlist, List.length_map]
    have hval : ∀ j : Nat, j < xs.length → scr.slots[j]? = some (.int (xs.getD j 0)) := fun j hj => by
      rw [← Array.getElem?_toList, hlist]
      simp [hj]
    have hbl : b < s.heap.size := (Array.getElem?_eq_some_iff.mp hcb).1
    have hX : va_X b xs.length (fun j => xs.getD j 0) s s.heap := ⟨scr, hcb, hof, hkn, hsz, hval⟩
    have K : W p l e room_1 s m #[Value.ref b] below meth c s₁.heap [] 0 0 (lw_Z below #[Value.ref b] s) (entryFrame m ([Value.ref b] : List Value).toArray 7) := by
      rw [hh0]
      exact whole_start l hst hbd ⟨B.exec, B.bytes, B.returns, hml, hown, hts, hX, hbl, B.notSynchronized, hgv⟩
    obtain ⟨t, a1, o, b1, b2, b3⟩ := K s₁ rfl X₀
    exact ⟨t, o, a1, b1, b2, b3⟩
theorem lw_pre_spec {args : Array Value} {s : State} (h : (Jvm.Cond.and given_1 narrow_1).before args s = true) (hr : rest_1_c.before args s = true) : ∃ (b : Addr) (xs : List Int32), lw_P b xs args s := by
  have hs := flat_of_before _ h
  have hq := flat_of_before _ hr
  have hc : (Cond.count 1).before args s = true := hs _ (by decide +kernel)
  have harr : (Cond.arrayOf (.arg 0) .int).before args s = true := hs _ (by decide +kernel)
  have hle : (Cond.le (.length (.arg 0)) (.int 3072)).before args s = true := hs _ (by decide +kernel)
  have hlen : (Cond.isInt (.length (.arg 0))).before args s = true := hq _ (by decide +kernel)
  have hall : (Cond.all (.arg 0) (.isInt (.elem (.arg 0) (.index 0)))).before args s = true := hq _ (by decide +kernel)
  obtain ⟨b, xs, hb, hx⟩ := State.ints_of_pre rfl harr hlen hall
  have hsm : xs.length < 2 ^ 31 := hx.choose_spec.2.2.2
  have hev : (Term.length (.arg 0)).eval args s none [] s = some (.int xs.length.toInt32) := hx.length_eval hb
  have hv := Cond.le_ints hev (show (Term.int 3072).eval args s none [] s = some (.int 3072) from rfl)
  have hd : xs.length.toInt32 ≤ 3072 := by
    simpa [Cond.before, Cond.holds, hv] using hle
  have hN : xs.length ≤ 3072 := (Int32.ofNat_le_ofNat hsm (by decide)).mp (show Int32.ofNat xs.length ≤ Int32.ofNat 3072 from hd)
  exact ⟨b, xs, Cond.one_arg hc (show args[0]? = some (.ref b) from hb), hx, hN, h⟩
theorem lw_comes (l : Launch) (hst : l.stackTraces = false) : Comes l x (Jvm.Cond.code x code maxLocals ret :: tables_1) room_1 (fun tb e args s => Calls_1 tb e args s ∧ rest_1 tb e args s ∧ Pre_1 tb e args s)
    (fun _ _ args s o t => lw_Q args s o t) := by
  intro p e ha hc hk s m args below hf hfit hheap happ hpre
  obtain ⟨b, xs, hP⟩ := lw_pre_spec hpre.2.2 hpre.2.1
  obtain ⟨k, o, h1, h2, h3, hQ⟩ := lw_walk l hst b xs p e ha hc hk s m args below hf ((Spec.applies_iff_loose hf).mp happ).1 hP trivial
  exact ⟨k, o, h1, h2, h3, hQ⟩
theorem lw_frame {s t : State} {o : Outcome} {args : Array Value} (h : Framed s o t [] 601024 7293034) :
    Framed s o t (fieldLocs frame_1_writes args s ++ arrayLocs frame_1_arrays args s ++ staticLocs frame_1_statics s) 601024 7293034 := h
theorem lw_limb (L : Cond) (hL : ∀ (args : Array Value) (s t : State), L.after args s (.returned (some (.int 1))) t = true) :
    ArmFor flags0 classFile x code maxLocals ret World_1 tables_1 room_1 Calls_1 rest_1 Pre_1
      (fun tb e a s o t => postC L tb e a s o t ∧ Framed s o t (fieldLocs frame_1_writes a s ++ arrayLocs frame_1_arrays a s ++ staticLocs frame_1_statics s) 601024 7293034) := by
  intro l hfl _ _ p e ha hc hk s m args below hf hfit hheap happ hpre
  obtain ⟨k, o, h1, h2, h3, rfl, hF⟩ := lw_comes l (by unfold Launch.stackTraces; rw [hfl]; decide +kernel) p e ha hc hk s m args below hf hfit hheap happ hpre
  exact ⟨k, _, h1, h2, h3, hL args s _, lw_frame hF⟩
theorem i_vc : Claimed_1_1 ∧ Claimed_1_2 := ⟨lw_limb limb_1_1 (fun args s t => by simp [limb_1_1, Cond.after, Cond.holds, Cond.value]), lw_limb limb_1_2 (fun args s t => Cond.after_iff.mpr (by
  first | (rw [show limb_1_2 = Cond.eq .result (.int 1) from rfl, Cond.eq_ints (x := 1) (y := 1) rfl rfl]; simp; done) | (simp [limb_1_2, Cond.value, Term.eval]; done)))⟩
