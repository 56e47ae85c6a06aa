theorem m_41_20 : Cond.classLink RX11 252 "java/util/NoSuchElementException" ∈ wsL_law := ch_41 _ (List.mem_of_getElem? (i := 20) rfl)
theorem m_41_21 : Cond.initialized "java/util/NoSuchElementException" ∈ wsL_law := ch_41 _ (List.mem_of_getElem? (i := 21) rfl)
theorem m_41_22 : Cond.fieldLink RX11 259 "PaperBoys$Bundle" "sold" "I" ∈ wsL_law := ch_41 _ (List.mem_of_getElem? (i := 22) rfl)
theorem m_42_0 : Cond.fieldLink RX11 262 "PaperBoys$Bundle" "back" "I" ∈ wsL_law := ch_42 _ (List.mem_of_getElem? (i := 0) rfl)
theorem m_42_1 : Cond.fieldLink RX11 265 "PaperBoys$Bundle" "eaten" "I" ∈ wsL_law := ch_42 _ (List.mem_of_getElem? (i := 1) rfl)
theorem m_42_2 : Cond.fieldLink RX11 268 "PaperBoys$Bundle" "cost" "I" ∈ wsL_law := ch_42 _ (List.mem_of_getElem? (i := 2) rfl)
theorem m_42_17 : Cond.fieldLink RX11 275 "PaperBoys$Boy" "coin" "I" ∈ wsL_law := ch_42 _ (List.mem_of_getElem? (i := 17) rfl)
theorem kd51_0 : (decode cX11_coin 0 = .ok (.aload_n 0, 1)) ∧ (decode cX11_coin 1 = .ok (.getfield 19, 3)) ∧ (decode cX11_coin 4 = .ok (.iload_n 1, 1)) ∧ (decode cX11_coin 5 = .ok (.invokevirtual 132, 3)) ∧ (decode cX11_coin 8 = .ok (.ifCond .ne 14, 3)) ∧ (decode cX11_coin 11 = .ok (.new 252, 3)) ∧ (decode cX11_coin 14 = .ok (.dup, 1)) ∧ (decode cX11_coin 15 = .ok (.ldc_w 273, 3)) ∧ (decode cX11_coin 18 = .ok (.invokespecial 256, 3)) ∧ (decode cX11_coin 21 = .ok (.athrow, 1)) ∧ (decode cX11_coin 22 = .ok (.aload_n 0, 1)) ∧ (decode cX11_coin 23 = .ok (.getfield 19, 3)) := by decide +kernel
theorem kd51_1 : (decode cX11_coin 26 = .ok (.getfield 109, 3)) ∧ (decode cX11_coin 29 = .ok (.iload_n 1, 1)) ∧ (decode cX11_coin 30 = .ok (.invokevirtual 135, 3)) ∧ (decode cX11_coin 33 = .ok (.checkcast 123, 3)) ∧ (decode cX11_coin 36 = .ok (.getfield 275, 3)) ∧ (decode cX11_coin 39 = .ok (.ireturn, 1)) ∧ (decode cX11_of 0 = .ok (.aload_n 0, 1)) ∧ (decode cX11_of 1 = .ok (.getfield 19, 3)) ∧ (decode cX11_of 4 = .ok (.iload_n 1, 1)) ∧ (decode cX11_of 5 = .ok (.invokevirtual 221, 3)) ∧ (decode cX11_of 8 = .ok (.ifCond .ne 13, 3)) ∧ (decode cX11_of 11 = .ok (.new 252, 3)) := by decide +kernel
theorem kd51_2 : (decode cX11_of 14 = .ok (.dup, 1)) ∧ (decode cX11_of 15 = .ok (.ldc 254, 2)) ∧ (decode cX11_of 17 = .ok (.invokespecial 256, 3)) ∧ (decode cX11_of 20 = .ok (.athrow, 1)) ∧ (decode cX11_of 21 = .ok (.aload_n 0, 1)) ∧ (decode cX11_of 22 = .ok (.getfield 19, 3)) ∧ (decode cX11_of 25 = .ok (.getfield 205, 3)) ∧ (decode cX11_of 28 = .ok (.iload_n 1, 1)) ∧ (decode cX11_of 29 = .ok (.invokevirtual 135, 3)) ∧ (decode cX11_of 32 = .ok (.checkcast 208, 3)) ∧ (decode cX11_of 35 = .ok (.astore_n 3, 1)) ∧ (decode cX11_of 36 = .ok (.iload_n 2, 1)) := by decide +kernel
theorem kd51_3 : (decode cX11_of 37 = .ok (.tableswitch 60 0 4 #[35, 40, 45, 50, 55], 35)) ∧ (decode cX11_of 72 = .ok (.aload_n 3, 1)) ∧ (decode cX11_of 73 = .ok (.getfield 224, 3)) ∧ (decode cX11_of 76 = .ok (.ireturn, 1)) ∧ (decode cX11_of 77 = .ok (.aload_n 3, 1)) ∧ (decode cX11_of 78 = .ok (.getfield 259, 3)) ∧ (decode cX11_of 81 = .ok (.ireturn, 1)) ∧ (decode cX11_of 82 = .ok (.aload_n 3, 1)) ∧ (decode cX11_of 83 = .ok (.getfield 262, 3)) ∧ (decode cX11_of 86 = .ok (.ireturn, 1)) ∧ (decode cX11_of 87 = .ok (.aload_n 3, 1)) ∧ (decode cX11_of 88 = .ok (.getfield 265, 3)) := by decide +kernel
theorem kd51_4 : (decode cX11_of 91 = .ok (.ireturn, 1)) ∧ (decode cX11_of 92 = .ok (.aload_n 3, 1)) ∧ (decode cX11_of 93 = .ok (.getfield 268, 3)) ∧ (decode cX11_of 96 = .ok (.ireturn, 1)) ∧ (decode cX11_of 97 = .ok (.new 252, 3)) ∧ (decode cX11_of 100 = .ok (.dup, 1)) ∧ (decode cX11_of 101 = .ok (.ldc_w 271, 3)) ∧ (decode cX11_of 104 = .ok (.invokespecial 256, 3)) ∧ (decode cX11_of 107 = .ok (.athrow, 1)) := by decide +kernel
theorem fl_X11_259_2 : xF RX11 259 2 8 .int false := ⟨by decide, RX1, TX1, 11, tyX1, "PaperBoys$Bundle", rfl, inlX1, tyX1_ok, nmX1, by decide, rfl, rfl, m_41_22, Or.inl rfl⟩
theorem fl_X11_262_2 : xF RX11 262 2 9 .int false := ⟨by decide, RX1, TX1, 11, tyX1, "PaperBoys$Bundle", rfl, inlX1, tyX1_ok, nmX1, by decide, rfl, rfl, m_42_0, Or.inl rfl⟩
theorem fl_X11_265_2 : xF RX11 265 2 10 .int false := ⟨by decide, RX1, TX1, 11, tyX1, "PaperBoys$Bundle", rfl, inlX1, tyX1_ok, nmX1, by decide, rfl, rfl, m_42_1, Or.inl rfl⟩
theorem fl_X11_268_2 : xF RX11 268 2 7 .int false := ⟨by decide, RX1, TX1, 11, tyX1, "PaperBoys$Bundle", rfl, inlX1, tyX1_ok, nmX1, by decide, rfl, rfl, m_42_2, Or.inl rfl⟩
theorem fl_X11_275_1 : xF RX11 275 1 5 .int false := ⟨by decide, RX0, TX0, 6, tyX0, "PaperBoys$Boy", rfl, inlX0, tyX0_ok, nmX0, by decide, rfl, rfl, m_42_17, Or.inl rfl⟩
def pbX : String := "java/util/NoSuchElementException"
def atY : List Cond := Bundle.throwableAtoms ++ Bundle.throwableSAtoms ++ (Bundle.passSAtoms pbX "java/lang/RuntimeException" 13 prog_33_method_4_code ++ Bundle.chainSAtoms "java/lang/RuntimeException" ["java/lang/Exception"]) ++
  [.methodLink RX11 256 (Bundle.initS pbX), .instantiable pbX 6, .castable pbX pbX, .selects pbX Bundle.tFill0 Bundle.tFill0, .selects pbX Bundle.tFill Bundle.tFill,
   .lays pbX Bundle.tN "cause" "Ljava/lang/Throwable;", .lays pbX Bundle.tN "stackTrace" Bundle.steD, .lays pbX Bundle.tN "suppressedExceptions" Bundle.listD, .lays pbX Bundle.tN "detailMessage" "Ljava/lang/String;",
   .isRef (.static Bundle.tN "UNASSIGNED_STACK" Bundle.steD), .isRef (.static Bundle.tN "SUPPRESSED_SENTINEL" Bundle.listD),
   .fieldLink Bundle.tN 198 Bundle.tN "backtrace" "Ljava/lang/Object;", .lays Bundle.tN Bundle.tN "backtrace" "Ljava/lang/Object;", .lays pbX Bundle.tN "backtrace" "Ljava/lang/Object;"]
theorem nb_0 : decode prog_33_method_4_code 0 = .ok (.aload_n 0, 1) := by decide +kernel
theorem nb_1 : decode prog_33_method_4_code 1 = .ok (.aload_n 1, 1) := by decide +kernel
theorem nb_2 : decode prog_33_method_4_code 2 = .ok (.invokespecial 13, 3) := by decide +kernel
theorem nb_5 : decode prog_33_method_4_code 5 = .ok (.return_, 1) := by decide +kernel
theorem pb_chain {args : Array Value} {s : State} {pl : Platform} (hpl : pl.magicAccessors = ({} : Platform).magicAccessors) {top : MethodId} (htop : s.methodNamed? (Bundle.initS Bundle.tN) = some top) (h : ∀ c ∈ Bundle.passSAtoms pbX "java/lang/RuntimeException" 13 prog_33_method_4_code ++ Bundle.chainSAtoms "java/lang/RuntimeException" ["java/lang/Exception"], c.before args s = true) :
    ∃ (P1 : PassC) (Ps : List PassC), Ps.length = 2 ∧ P1.LinksS pl s ∧ (∀ P, P ∈ Ps → P.LinksS pl s) ∧ s.methodNamed? (Bundle.initS pbX) = some P1.m ∧ P1.sup = firstOf top (Ps.map (·.toPassT)) ∧ PassesOn top (Ps.map (·.toPassT)) := by
  obtain ⟨P, L, hm, hs⟩ := PassC.ofS_atoms (args := args) (s := s) hpl (X := pbX) (Y := "java/lang/RuntimeException") (by decide) (by decide) nb_0 nb_1 nb_2 nb_5 (fun c hc => h c (List.mem_append_left _ hc))
  obtain ⟨P', Ps, hlen, L', hL, hm', hsup, hpass⟩ := Bundle.chainS (args := args) hpl htop ["java/lang/Exception"] "java/lang/RuntimeException" (by decide) (by decide) (fun c hc => h c (List.mem_append_right _ hc))
  refine ⟨P, P' :: Ps, by simp [hlen], L, ?_, hm, Option.some.inj (hs.symm.trans hm'), hsup, hpass⟩
  intro Q hQ
  rcases List.mem_cons.mp hQ with rfl | hQ
  · exact L'
  · exact hL Q hQ
section PBT
variable {p : Program} {l : Launch} {e : Env} {R : Room} {s : State} {m₀ : MethodId} {args : Array Value} {below : List Frame} {meth : Method} {c : Code} {W : State} {locs : List Loc} {cells slots : Nat}
set_option maxHeartbeats 1000000 in
theorem pb_ctor (X : Stand p l e R s m₀ args below meth c W locs cells slots) (hexec : p.tables.exec = Jvm.exec) (htr : e.platform.stackTraces = false)
    (hown : s.vm.findClass RX11 = some m₀.cls)
    (h : ∀ a ∈ atY, a.before args s = true)
    (hlocs : ∀ x ∈ locs, ∀ cell, s.heap[x.base]? = some cell → cell.vm.isStatics = false)
    {a : Addr} {cX : ClassId} {kX : Class} (hfoundX : s.vm.findClass pbX = some cX) (hkX : s.vm.classes[cX]? = some kX) (hcell : W.heap[a]? = some (freshCell cX kX)) (hnew : s.heap.size ≤ a)
    {msg : Value} (hmsg : msg.isRef = true)
    {g : JFrame} (hg : g.method = m₀) (hsize : g.locals.size = c.maxLocals) (hlocked : g.locked = none) (hentered : g.entered = []) {rest : List Value} (hstack : g.stack = msg :: .ref a :: .ref a :: rest)
    (hd6 : decode c.code g.pc = .ok (.invokespecial 256, 3)) (hd9 : decode c.code (g.pc + 3) = .ok (.athrow, 1)) (hout : ∀ x ∈ c.exceptionTable.toList, covers x (g.pc + 3) = false)
    (hRframes : 2 + 3 < R.frames) (hRlocals : 2 * g.monitorRoom + ((Value.ref a :: rest).map fun v => v.category).sum + (13 * (2 + 1) + 42) ≤ R.locals) (hlocks : meth.locks = false := by first | assumption | exact BodyLoose.notSynchronized (by assumption) | exact Body.notSynchronized (by assumption)) :
    ∃ U : State, Steps p.tables e below (W.setTop g) U ∧ U.status = .running ∧ Ended U below (.threw a) ∧ s.WarmedH U.vm ∧ s.sameButNew ({ U with vm := s.vm } : State) locs cells slots ∧
      ∃ ce, U.heap[a]? = some ce ∧ ce.vm = .none ∧ s.vm.findClass pbX = some ce.cls := by
  have howns : e.platform.frameOwnsMonitors = true := by rw [X.admits.platform]
  have hfin : e.platform.finalization = false := by rw [X.admits.platform]
  have hpl : e.platform.magicAccessors = ({} : Platform).magicAccessors := by rw [X.admits.platform]
  have a' : ∀ x, x ∈ atY → x.holds args s none s [] = true := fun x hx => h x hx
  obtain ⟨T, Z0, L, -, Y⟩ := ThrowableC.of_atoms (args := args) howns hfin hpl (fun x hx => h x (List.mem_append_left _ (List.mem_append_left _ (List.mem_append_left _ hx))))
  obtain ⟨Z, M, LZ, LM, hnZ⟩ := Init0T.ofS_atoms (args := args) hpl L Y (fun x hx => h x (List.mem_append_left _ (List.mem_append_left _ (List.mem_append_right _ hx))))
  obtain ⟨P1, Ps, hlen, L1, hL, hP1m, hlink1, hlink⟩ := pb_chain (args := args) hpl hnZ (fun x hx => h x (List.mem_append_left _ (List.mem_append_right _ hx)))
  have hfound : s.vm.findClass pbX = some P1.m.cls := findClass_of_methodNamed hP1m
  cases Option.some.inj (hfoundX.symm.trans hfound)
  obtain ⟨c1, kX', hc1, hk, hord, -, -, hn6⟩ := Cond.instantiable_spec (a' (.instantiable pbX 6) (List.mem_append_right _ (by simp)))
  cases Option.some.inj (hc1.symm.trans hfound)
  cases Option.some.inj (hkX.symm.trans hk)
  have hsel0 : selectMethod e.platform s.vm P1.m.cls T.fill0 = .method T.fill0 := by
    obtain ⟨c2, r2, m2, q1, q2, q3, q4, -⟩ := Cond.selects_spec (a' (.selects pbX Bundle.tFill0 Bundle.tFill0) (List.mem_append_right _ (by simp)))
    cases Option.some.inj (q1.symm.trans hfound)
    cases Option.some.inj (q2.symm.trans (State.methodFound?_of_named Y.fill0 (by decide)))
    cases Option.some.inj (q3.symm.trans Y.fill0)
    rw [Launch.admits_selectMethod X.admits]; exact q4
  have hselF : selectMethod e.platform s.vm P1.m.cls T.fill = .method T.fill := by
    obtain ⟨c2, r2, m2, q1, q2, q3, q4, -⟩ := Cond.selects_spec (a' (.selects pbX Bundle.tFill Bundle.tFill) (List.mem_append_right _ (by simp)))
    cases Option.some.inj (q1.symm.trans hfound)
    cases Option.some.inj (q2.symm.trans (State.methodFound?_of_named Y.fill (by decide)))
    cases Option.some.inj (q3.symm.trans Y.fill)
    rw [Launch.admits_selectMethod X.admits]; exact q4
  obtain ⟨cellS0, hcS0, hiss⟩ := Y.statics
  obtain ⟨u0, hu0⟩ := Cond.staticRefV Y.unassigned L.unassignedStatic L.statics hcS0 hiss (a' (.isRef (.static Bundle.tN "UNASSIGNED_STACK" Bundle.steD)) (List.mem_append_right _ (by simp)))
  obtain ⟨sen, hsen⟩ := Cond.staticRefV Y.sentinel L.sentinelStatic L.statics hcS0 hiss (a' (.isRef (.static Bundle.tN "SUPPRESSED_SENTINEL" Bundle.listD)) (List.mem_append_right _ (by simp)))
  obtain ⟨ci198, i198, fB, hk198, hg198, ha198, hsB, -, hnB, htB, hffB⟩ := Cond.ownField (t := .object "java/lang/Object") Y.found L.cls (by decide +kernel) (a' (.fieldLink Bundle.tN 198 Bundle.tN "backtrace" "Ljava/lang/Object;") (List.mem_append_right _ (by simp))) (a' (.lays Bundle.tN Bundle.tN "backtrace" "Ljava/lang/Object;") (List.mem_append_right _ (by simp))) e.platform hpl
  obtain ⟨cellS, hcS', heS, -, hkeep⟩ := X.same.2.2.2.2.2 T.aS cellS0 hcS0
  have hcellS : W.heap[T.aS]? = some cellS := hcS'
  have hout' : ∀ i, (⟨T.aS, i⟩ : Loc) ∉ locs := fun i hmem => by
    have := hlocs _ hmem cellS0 hcS0
    rw [hiss] at this; cases this
  have hknownS : cellS.vm ≠ .unknown := by
    rw [heS]; intro hu
    rw [show cellS0.vm = .unknown from hu] at hiss
    cases hiss
  have hneS : T.aS ≠ a := Nat.ne_of_lt (Nat.lt_of_lt_of_le (Array.getElem?_eq_some_iff.mp hcS0).1 hnew)
  obtain ⟨iM, hffM⟩ := Y.msg
  obtain ⟨tyC, dC, hdC, hdnC⟩ := Cond.laysAt hfound hk Y.cause (a' (.lays pbX Bundle.tN "cause" "Ljava/lang/Throwable;") (List.mem_append_right _ (by simp)))
  obtain ⟨tyS, dS, hdS, hdnS⟩ := Cond.laysAt hfound hk Y.stack (a' (.lays pbX Bundle.tN "stackTrace" Bundle.steD) (List.mem_append_right _ (by simp)))
  obtain ⟨tyP, dP, hdP, hdnP⟩ := Cond.laysAt hfound hk Y.supp (a' (.lays pbX Bundle.tN "suppressedExceptions" Bundle.listD) (List.mem_append_right _ (by simp)))
  obtain ⟨tyM, dM, hdM, hdnM⟩ := Cond.laysAt hfound hk hffM (a' (.lays pbX Bundle.tN "detailMessage" "Ljava/lang/String;") (List.mem_append_right _ (by simp)))
  obtain ⟨tyB, dB, hdB, hdnB⟩ := Cond.laysAt hfound hk hffB (a' (.lays pbX Bundle.tN "backtrace" "Ljava/lang/Object;") (List.mem_append_right _ (by simp)))
  have bC := Cond.laysApart hdB hdC hdnB hdnC (by rw [hnB, Y.causeName]; decide)
  have bS := Cond.laysApart hdB hdS hdnB hdnS (by rw [hnB, Y.stackName]; decide)
  have bP := Cond.laysApart hdB hdP hdnB hdnP (by rw [hnB, Y.suppName]; decide)
  have hskip : SkipFacts T e.platform s (fun u => u) u0 ((preparedCellV T.toThrowableT (freshCell P1.m.cls kX) a u0 sen).withEntry W.cur) :=
    ⟨{ ci198 := ci198, i198 := i198, fBack := fB }, ⟨hk198, hg198, ha198, hsB⟩, by
      have := fresh_default (c := P1.m.cls) tyB
      rw [htB] at this
      simpa [preparedCellV, Cell.setSlot, Cell.withEntry, Array.getElem?_setIfInBounds, bC, bS, bP, bC.symm, bS.symm, bP.symm, defaultValue] using this, fun _ _ => rfl⟩
  obtain ⟨tm, methC, cdC, kC, vm₁, hnC, -, -, -, -, -, -, -, hW₁, st1⟩ := Steps.initColdS (tb := p.tables) (e := e) (below := below) (s := s) (U := W) X.here hexec X.warmed hpl hown (t := Bundle.initS pbX) rfl rfl (by decide)
    (a' (.methodLink RX11 256 (Bundle.initS pbX)) (List.mem_append_right _ (by simp))) (h (.instanceMethod (Bundle.initS pbX)) (List.mem_append_left _ (List.mem_append_right _ (List.mem_append_left _ (by simp [Bundle.passSAtoms]))))) (bytes := prog_33_method_4_code) (maxL := 2) (h (.code (Bundle.initS pbX) prog_33_method_4_code 2 none) (List.mem_append_left _ (List.mem_append_right _ (List.mem_append_left _ (by simp [Bundle.passSAtoms])))))
    (f := g) hg (a := a) (msg := msg) (rest := .ref a :: rest) hstack hd6
  cases Option.some.inj (hnC.symm.trans hP1m)
  have X₁ := X.noted hW₁
  obtain ⟨vm₂, X₂, st2⟩ := X₁.ctorMessageOffV hexec (g := { g with stack := .ref a :: rest }) hg hsize T L Z LZ M LM (P1 :: Ps)
    (fun P hP => by rcases List.mem_cons.mp hP with rfl | hP; exact L1; exact hL P hP) ⟨hlink1, hlink⟩ (u0 := u0) (sen := sen) (self := a) hmsg (cell := freshCell P1.m.cls kX) (cellS := cellS)
    hcell (fun _ => by simp) (by simp) rfl rfl hsel0 hselF hcellS hneS hknownS (by rw [hkeep _ (hout' _)]; exact hu0) (by rw [hkeep _ (hout' _)]; exact hsen)
    (Takes.of_laid hk hord tyC (by rw [Y.causeType]; rfl)) (Takes.of_laid hk hord tyS (by rw [Y.stackType]; exact fits_refV_array _ u0)) (Takes.of_laid hk hord tyP (by rw [Y.suppType]; exact fits_refV_object _ sen))
    (Takes.of_laid hk hord tyM (by rw [Y.msgType]; exact fits_refV_object _ ⟨msg, hmsg⟩)) Y.objLocals hskip htr [] hd6
    (by simp only [List.length_cons, hlen]; omega) (by simp only [List.length_cons, hlen]; exact hRlocals)
  obtain ⟨hwalk, hrun, hended, hWU, hsame⟩ := X₂.athrowLeaves hexec (g := { g with stack := .ref a :: rest, pc := g.pc + 3 }) hg hlocked hentered hout (a := a) (rest := rest) rfl hd9
  obtain ⟨c3, c4, hc3, hc4, hasg⟩ := Cond.castable_spec (a' (.castable pbX pbX) (List.mem_append_right _ (by simp)))
  cases Option.some.inj (hc3.symm.trans hfound)
  cases Option.some.inj (hc4.symm.trans hfound)
  have hlt : a < ((W.setVm vm₁).setVm vm₂).heap.size := (Array.getElem?_eq_some_iff.mp hcell).1
  have hU := heapAt_setCell_self (s := (W.setVm vm₁).setVm vm₂) (plainBareV T.toThrowableT (freshCell P1.m.cls kX) a u0 sen msg) hlt
  refine ⟨_, st1 _ (fun acts => ?_), hrun, hended, hWU, hsame.weaken (fun y hy hlt' => ?_) (Nat.le_refl _) (Nat.le_refl _), _, hU, rfl, hfound⟩
  · rw [doInvoke_state]
    exact st2 _ hwalk
  · rcases List.mem_append.mp hy with h1 | h1
    · exact h1
    · exfalso
      have hb : y.base = a := by
        simp only [List.mem_cons, List.not_mem_nil, or_false] at h1
        rcases h1 with rfl | rfl | rfl | rfl | rfl <;> rfl
      rw [hb] at hlt'
      exact Nat.not_lt.mpr hnew hlt'
end PBT
section PBU
variable {p : Program} {l : Launch} {e : Env} {R : Room} {s : State} {m : MethodId} {args : Array Value} {below : List Frame} {meth : Method} {c : Code} {H : Heap} {locs : List Loc} {cells slots : Nat} {Q : State → Prop}
variable {mc ms : Nat} {free : Addr → Prop} {A0 A1 : Nat → Prop} {H0 : Heap} {a : Array Value} {ls : Array Slot} {st0 rest : List Value}
variable {Qc : Array Value → State → Outcome → State → Prop} {XC : String → State → State → Prop}
set_option maxHeartbeats 4000000 in
theorem pb_throwS {cc : ByteArray} {pc : Nat} (hexec : p.tables.exec = Jvm.exec) (hb : c.code = cc) (hl : l.stackTraces = false) {text : String} {ik is mc ms sa : Nat} {A : Nat → Prop}
    (hown : s.vm.findClass RX11 = some m.cls)
    (hk : (Cond.classLink RX11 ik pbX).before args s = true) (hini : (Cond.initialized pbX).before args s = true) (hstr : vk_R RX11 is text sa s) (hat : ∀ w ∈ (atY.filter vx_no), w.before args s = true)
    (hgood : ∀ w ∈ Cond.classLink RX11 ik pbX :: Cond.initialized pbX :: (atY.filter vx_no), vx_ot w = true)
    (hU : vx_Zq Bundle.tN "UNASSIGNED_STACK" Bundle.steD A s s.heap) (hN : vx_Zq Bundle.tN "SUPPRESSED_SENTINEL" Bundle.listD A s s.heap) (hS : va_S A s.heap H locs) (hsize : ls.size = c.maxLocals)
    (d0 : decode cc pc = .ok (.new ik, 3)) (d3 : decode cc (pc + 3) = .ok (.dup, 1)) (d4 : decode cc (pc + 4) = .ok (.ldc is, 2)) (d6 : decode cc (pc + 6) = .ok (.invokespecial 256, 3)) (d9 : decode cc (pc + 9) = .ok (.athrow, 1))
    (hout : ∀ x ∈ c.exceptionTable.toList, covers x (pc + 9) = false)
    (hRframes : 2 + 3 < R.frames) (hRlocals : (rest.map fun v => v.category).sum + (13 * (2 + 1) + 43) ≤ R.locals) (hRcells : cells + 1 ≤ R.cells) (hRslots : slots + 6 ≤ R.slots) (hlocks : meth.locks = false)
    (hx : ∀ t : State, s.vm.Alike t.vm → H.size ≤ t.heap.size → (∀ q : Nat, q < H.size → t.heap[q]? = H[q]?) → XC pbX s t)
    (hf : ∀ z ∈ locs, free z.base) (hc : cells + 1 ≤ mc) (hs : slots + 6 ≤ ms) :
    W p l e R s m args below meth c H locs cells slots (vx_MQ below Qc XC args s mc ms free) (F0 m pc ls rest) := by
  intro T hT X
  have htr : e.platform.stackTraces = false := (show e.platform.stackTraces = l.stackTraces by rw [X.admits.platform]).trans hl
  have Y := vx_rebase X (R' := { frames := R.frames, locals := R.locals, cells := 1, slots := 6 }) (Nat.le_refl _) (Nat.le_refl _) hRcells hRslots
  obtain ⟨s', hA⟩ : ∃ z, z = (T.setVm s.vm).setFrames (.invoking m args :: below) := ⟨_, rfl⟩
  rw [← hA] at Y
  have hvm : s'.vm = s.vm := by rw [hA]; rfl
  have hhp : s'.heap = H := by rw [hA]; exact hT
  have hW0 : s.WarmedH s'.vm := by rw [hvm]; exact State.WarmedH.refl s
  have hat' : ∀ w ∈ (atY.filter vx_no), w.before args s' = true := fun w hw => vx_ot_at hW0 hvm.symm (hgood w (List.mem_cons_of_mem _ (List.mem_cons_of_mem _ hw))) (hat w hw)
  have hk' : (Cond.classLink RX11 ik pbX).before args s' = true := vx_ot_at hW0 hvm.symm (hgood _ List.mem_cons_self) hk
  have hini' : (Cond.initialized pbX).before args s' = true := vx_ot_at hW0 hvm.symm (hgood _ (List.mem_cons_of_mem _ List.mem_cons_self)) hini
  have hU' : vx_Zq Bundle.tN "UNASSIGNED_STACK" Bundle.steD A s' s'.heap := by rw [hhp]; exact vx_Zq.moved hW0.alike (hU.kept hS.2.1)
  have hN' : vx_Zq Bundle.tN "SUPPRESSED_SENTINEL" Bundle.listD A s' s'.heap := by rw [hhp]; exact vx_Zq.moved hW0.alike (hN.kept hS.2.1)
  have h : ∀ w ∈ atY, w.before args s' = true := vx_own hat' (vx_isRefq hU'.1) (vx_isRefq hN'.1) hU'.2.word hN'.2.word
  have hown' : s'.vm.findClass RX11 = some m.cls := by rw [hvm]; exact hown
  have hins : (Cond.instantiable pbX 6).before args s' = true := h _ (List.mem_append_right _ (by simp))
  obtain ⟨vm₁, cX, kX, hfX, hkX, -, -, X₁, st1⟩ := Y.newCold hexec (own := RX11) (C := pbX) (index := ik) (n := 6) hown' hk' hins hini'
    (g := F0 m pc ls rest) rfl (by rw [hb]; exact d0) (Nat.le_refl _) (Nat.le_refl _)
  generalize hT1 : (T.setVm vm₁).pushCell { cls := cX, slots := kX.instanceTypes.map defaultValue, vm := .none } = T1 at X₁ st1
  have hcat : (Value.ref T.heap.size).category = 1 := rfl
  have hcellA : T1.heap[T.heap.size]? = some (freshCell cX kX) := by rw [← hT1]; exact State.heap_pushCell_size _ _
  have d3' : decode c.code (pc + 3) = .ok (.dup, 1) := by rw [hb]; exact d3
  have d4' : decode c.code (pc + 4) = .ok (.ldc is, 2) := by rw [hb]; exact d4
  have hstr' : vk_R RX11 is text sa s' := vk_R.warm hW0 hstr
  obtain ⟨U, hsteps, hrun, hend, hW, hsame, ce, hce, hO⟩ := pb_ctor X₁ hexec htr hown' h (fun x hx => nomatch hx) hfX hkX hcellA (by rw [hhp, hT]; exact Nat.le_refl _) (msg := .ref sa) rfl
    (g := { method := m, pc := pc + 6, locals := ls, stack := .ref sa :: .ref T.heap.size :: .ref T.heap.size :: rest, locked := none }) rfl hsize rfl rfl (rest := rest) rfl
    (by rw [hb]; exact d6) (by rw [hb]; exact d9) hout hRframes (by simp only [List.map_cons, List.sum_cons, hcat]; omega) hlocks
  obtain ⟨f1, f2⟩ := vx_frame hsame
  rw [hhp] at f1 f2
  have hWs : s.WarmedH U.vm := State.WarmedH.trans hW0 hW
  have hcl : s.vm.findClass pbX = some ce.cls := by
    have h9 := hO.2
    rw [hvm] at h9
    exact h9
  have hall : s.sameButNew ({ U with vm := s.vm } : State) locs mc ms := by
    subst hA
    obtain ⟨e1, e2⟩ := hsame
    rw [State.setFrames_setFrames] at e1
    have h2 : (T.setVm s.vm).sameButNew ({ U with vm := s.vm } : State) [] (0 + 1) (0 + 6) := ⟨e1, e2⟩
    have h3 := X.same.trans h2
    rw [List.append_nil] at h3
    exact h3.mono hc hs
  refine ⟨U, ?_, .threw T.heap.size, hrun, hend, Or.inr ⟨T.heap.size, rfl, pbX, ce, locs, hx U hWs.alike f1 (fun q hq => f2 q hq (fun z hz => nomatch hz)), hce, hO.1, hcl, hWs, hall, hf⟩⟩
  refine st1 _ ?_
  show Steps p.tables e below (T1.setTop { method := m, pc := pc + 3, locals := ls, stack := .ref T.heap.size :: rest, locked := none }) _
  jvm_step X₁.here [X₁.here.top, hexec, d3', Value.category]
  exact X₁.ldcString hexec (own := RX11) (text := text) (index := is) (a := sa) hown' hstr'.1 hstr'.2
    (g := { method := m, pc := pc + 4, locals := ls, stack := .ref T.heap.size :: .ref T.heap.size :: rest, locked := none }) rfl d4' _ hsteps
set_option maxHeartbeats 4000000 in
theorem pb_throwSW {cc : ByteArray} {pc : Nat} (hexec : p.tables.exec = Jvm.exec) (hb : c.code = cc) (hl : l.stackTraces = false) {text : String} {ik is mc ms sa : Nat} {A : Nat → Prop}
    (hown : s.vm.findClass RX11 = some m.cls)
    (hk : (Cond.classLink RX11 ik pbX).before args s = true) (hini : (Cond.initialized pbX).before args s = true) (hstr : vk_R RX11 is text sa s) (hat : ∀ w ∈ (atY.filter vx_no), w.before args s = true)
    (hgood : ∀ w ∈ Cond.classLink RX11 ik pbX :: Cond.initialized pbX :: (atY.filter vx_no), vx_ot w = true)
    (hU : vx_Zq Bundle.tN "UNASSIGNED_STACK" Bundle.steD A s s.heap) (hN : vx_Zq Bundle.tN "SUPPRESSED_SENTINEL" Bundle.listD A s s.heap) (hS : va_S A s.heap H locs) (hsize : ls.size = c.maxLocals)
    (d0 : decode cc pc = .ok (.new ik, 3)) (d3 : decode cc (pc + 3) = .ok (.dup, 1)) (d4 : decode cc (pc + 4) = .ok (.ldc_w is, 3)) (d7 : decode cc (pc + 7) = .ok (.invokespecial 256, 3)) (d10 : decode cc (pc + 10) = .ok (.athrow, 1))
    (hout : ∀ x ∈ c.exceptionTable.toList, covers x (pc + 10) = false)
    (hRframes : 2 + 3 < R.frames) (hRlocals : (rest.map fun v => v.category).sum + (13 * (2 + 1) + 43) ≤ R.locals) (hRcells : cells + 1 ≤ R.cells) (hRslots : slots + 6 ≤ R.slots) (hlocks : meth.locks = false)
    (hx : ∀ t : State, s.vm.Alike t.vm → H.size ≤ t.heap.size → (∀ q : Nat, q < H.size → t.heap[q]? = H[q]?) → XC pbX s t)
    (hf : ∀ z ∈ locs, free z.base) (hc : cells + 1 ≤ mc) (hs : slots + 6 ≤ ms) :
    W p l e R s m args below meth c H locs cells slots (vx_MQ below Qc XC args s mc ms free) (F0 m pc ls rest) := by
  intro T hT X
  have htr : e.platform.stackTraces = false := (show e.platform.stackTraces = l.stackTraces by rw [X.admits.platform]).trans hl
  have Y := vx_rebase X (R' := { frames := R.frames, locals := R.locals, cells := 1, slots := 6 }) (Nat.le_refl _) (Nat.le_refl _) hRcells hRslots
  obtain ⟨s', hA⟩ : ∃ z, z = (T.setVm s.vm).setFrames (.invoking m args :: below) := ⟨_, rfl⟩
  rw [← hA] at Y
  have hvm : s'.vm = s.vm := by rw [hA]; rfl
  have hhp : s'.heap = H := by rw [hA]; exact hT
  have hW0 : s.WarmedH s'.vm := by rw [hvm]; exact State.WarmedH.refl s
  have hat' : ∀ w ∈ (atY.filter vx_no), w.before args s' = true := fun w hw => vx_ot_at hW0 hvm.symm (hgood w (List.mem_cons_of_mem _ (List.mem_cons_of_mem _ hw))) (hat w hw)
  have hk' : (Cond.classLink RX11 ik pbX).before args s' = true := vx_ot_at hW0 hvm.symm (hgood _ List.mem_cons_self) hk
  have hini' : (Cond.initialized pbX).before args s' = true := vx_ot_at hW0 hvm.symm (hgood _ (List.mem_cons_of_mem _ List.mem_cons_self)) hini
  have hU' : vx_Zq Bundle.tN "UNASSIGNED_STACK" Bundle.steD A s' s'.heap := by rw [hhp]; exact vx_Zq.moved hW0.alike (hU.kept hS.2.1)
  have hN' : vx_Zq Bundle.tN "SUPPRESSED_SENTINEL" Bundle.listD A s' s'.heap := by rw [hhp]; exact vx_Zq.moved hW0.alike (hN.kept hS.2.1)
  have h : ∀ w ∈ atY, w.before args s' = true := vx_own hat' (vx_isRefq hU'.1) (vx_isRefq hN'.1) hU'.2.word hN'.2.word
  have hown' : s'.vm.findClass RX11 = some m.cls := by rw [hvm]; exact hown
  have hins : (Cond.instantiable pbX 6).before args s' = true := h _ (List.mem_append_right _ (by simp))
  obtain ⟨vm₁, cX, kX, hfX, hkX, -, -, X₁, st1⟩ := Y.newCold hexec (own := RX11) (C := pbX) (index := ik) (n := 6) hown' hk' hins hini'
    (g := F0 m pc ls rest) rfl (by rw [hb]; exact d0) (Nat.le_refl _) (Nat.le_refl _)
  generalize hT1 : (T.setVm vm₁).pushCell { cls := cX, slots := kX.instanceTypes.map defaultValue, vm := .none } = T1 at X₁ st1
  have hcat : (Value.ref T.heap.size).category = 1 := rfl
  have hcellA : T1.heap[T.heap.size]? = some (freshCell cX kX) := by rw [← hT1]; exact State.heap_pushCell_size _ _
  have d3' : decode c.code (pc + 3) = .ok (.dup, 1) := by rw [hb]; exact d3
  have d4' : decode c.code (pc + 4) = .ok (.ldc_w is, 3) := by rw [hb]; exact d4
  have hstr' : vk_R RX11 is text sa s' := vk_R.warm hW0 hstr
  obtain ⟨U, hsteps, hrun, hend, hW, hsame, ce, hce, hO⟩ := pb_ctor X₁ hexec htr hown' h (fun x hx => nomatch hx) hfX hkX hcellA (by rw [hhp, hT]; exact Nat.le_refl _) (msg := .ref sa) rfl
    (g := { method := m, pc := pc + 7, locals := ls, stack := .ref sa :: .ref T.heap.size :: .ref T.heap.size :: rest, locked := none }) rfl hsize rfl rfl (rest := rest) rfl
    (by rw [hb]; exact d7) (by rw [hb]; exact d10) hout hRframes (by simp only [List.map_cons, List.sum_cons, hcat]; omega) hlocks
  obtain ⟨f1, f2⟩ := vx_frame hsame
  rw [hhp] at f1 f2
  have hWs : s.WarmedH U.vm := State.WarmedH.trans hW0 hW
  have hcl : s.vm.findClass pbX = some ce.cls := by
    have h9 := hO.2
    rw [hvm] at h9
    exact h9
  have hall : s.sameButNew ({ U with vm := s.vm } : State) locs mc ms := by
    subst hA
    obtain ⟨e1, e2⟩ := hsame
    rw [State.setFrames_setFrames] at e1
    have h2 : (T.setVm s.vm).sameButNew ({ U with vm := s.vm } : State) [] (0 + 1) (0 + 6) := ⟨e1, e2⟩
    have h3 := X.same.trans h2
    rw [List.append_nil] at h3
    exact h3.mono hc hs
  refine ⟨U, ?_, .threw T.heap.size, hrun, hend, Or.inr ⟨T.heap.size, rfl, pbX, ce, locs, hx U hWs.alike f1 (fun q hq => f2 q hq (fun z hz => nomatch hz)), hce, hO.1, hcl, hWs, hall, hf⟩⟩
  refine st1 _ ?_
  show Steps p.tables e below (T1.setTop { method := m, pc := pc + 3, locals := ls, stack := .ref T.heap.size :: rest, locked := none }) _
  jvm_step X₁.here [X₁.here.top, hexec, d3', Value.category]
  exact X₁.ldcStringW hexec (own := RX11) (text := text) (index := is) (a := sa) hown' hstr'.1 hstr'.2
    (g := { method := m, pc := pc + 4, locals := ls, stack := .ref T.heap.size :: .ref T.heap.size :: rest, locked := none }) rfl d4' _ hsteps
end PBU
def wsY : List Cond := wsL_law ++ (atY.filter vx_no).filter goodWord
theorem wy_good : ∀ w ∈ wsY, goodWord w = true := List.forall_mem_append.mpr ⟨wl_good, fun _ h => (List.mem_filter.mp h).2⟩
theorem wy_g {w : Cond} (h : w ∈ wsY) : w ∈ wsY ∧ ((w.onTables && w.keeps) = true ∨ ∃ ty, w = .arrayClass ty) := ⟨h, good_of_word (wy_good w h)⟩
theorem gy_V {own C : String} {idx : Nat} {y : MethodName} {cd : ByteArray} {mx : Nat} {rt : Option FieldType} (h1 : Cond.methodLink own idx y ∈ wsL_law) (h2 : Cond.instanceMethod y ∈ wsL_law) (h3 : Cond.selects C y y ∈ wsL_law) (h4 : Cond.initialized C ∈ wsL_law) (h5 : Cond.code y cd mx rt ∈ wsL_law) : GoodIn wsY (wsV own idx C y (Cond.code y cd mx rt :: wsY)) := by
  intro w hw
  unfold wsV at hw
  rcases List.mem_append.mp hw with h | h
  · simp only [List.mem_cons, List.not_mem_nil, or_false] at h
    rcases h with rfl | rfl | rfl | rfl
    · exact wy_g (List.mem_append_left _ h1)
    · exact wy_g (List.mem_append_left _ h2)
    · exact wy_g (List.mem_append_left _ h3)
    · exact wy_g (List.mem_append_left _ h4)
  · rcases List.mem_cons.mp h with rfl | h
    · exact wy_g (List.mem_append_left _ h5)
    · exact wy_g h
def tsw (U : State) : Prop := va_Nw (.castable "java/util/NoSuchElementException" "java/util/NoSuchElementException") U ∧ va_Nw (.declares (Bundle.initS "java/lang/RuntimeException")) U ∧ va_Nw (.declares (Bundle.initS "java/lang/Exception")) U ∧ va_Nw (.declares (Bundle.initS Bundle.tN)) U
theorem tsw_same {u U : State} (h : u.vm = U.vm) (q : tsw u) : tsw U := ⟨va_Nw.same rfl h q.1, va_Nw.same rfl h q.2.1, va_Nw.same rfl h q.2.2.1, va_Nw.same rfl h q.2.2.2⟩
theorem tsw_warm {s U : State} (hW : s.WarmedH U.vm) (q : tsw s) : tsw U := ⟨va_Nw.warmC hW q.1, va_Nw.warmD hW q.2.1, va_Nw.warmD hW q.2.2.1, va_Nw.warmD hW q.2.2.2⟩
def tsr (A : Nat → Prop) (U : State) (H : Heap) : Prop := tsw U ∧ (∃ a, vk_R RX11 254 "no such bundle" a U) ∧ (∃ a, vk_R RX11 273 "no such boy" a U) ∧ vx_Zq Bundle.tN "UNASSIGNED_STACK" Bundle.steD A U H ∧ vx_Zq Bundle.tN "SUPPRESSED_SENTINEL" Bundle.listD A U H
theorem tsr_same {A : Nat → Prop} {u U : State} {H : Heap} (h : u.vm = U.vm) (q : tsr A u H) : tsr A U H := ⟨tsw_same h q.1, q.2.1.imp fun _ z => z.same h.symm, q.2.2.1.imp fun _ z => z.same h.symm, q.2.2.2.1.moved (h ▸ Vm.Alike.refl u.vm), q.2.2.2.2.moved (h ▸ Vm.Alike.refl u.vm)⟩
theorem tsr_go {A B : Nat → Prop} {s U : State} {H H1 : Heap} (hW : s.WarmedH U.vm) (hk : ∀ a : Nat, a < H.size → ¬ A a → H1[a]? = H[a]?) (hAB : ∀ q, B q → A q) (q : tsr A s H) : tsr B U H1 := ⟨tsw_warm hW q.1, q.2.1.imp fun _ z => z.warm hW, q.2.2.1.imp fun _ z => z.warm hW, ((q.2.2.2.1.kept hk).narrow hAB).moved hW.alike, ((q.2.2.2.2.kept hk).narrow hAB).moved hW.alike⟩
theorem tsr_words {args : Array Value} {s : State} (h1 : ∀ w ∈ (atY.filter vx_no).filter goodWord, w.before args s = true) (h : tsw s) : ∀ w ∈ atY.filter vx_no, w.before args s = true := vx_hat (B := [.castable "java/util/NoSuchElementException" "java/util/NoSuchElementException", .declares (Bundle.initS "java/lang/RuntimeException"), .declares (Bundle.initS "java/lang/Exception"), .declares (Bundle.initS Bundle.tN)]) h1 (by decide +kernel) (vx_c (va_Nw.use rfl h.1) (vx_c (va_Nw.use rfl h.2.1) (vx_c (va_Nw.use rfl h.2.2.1) (vx_c (va_Nw.use rfl h.2.2.2) vx_n))))
theorem tsr_good : ∀ w ∈ Cond.classLink RX11 252 "java/util/NoSuchElementException" :: Cond.initialized "java/util/NoSuchElementException" :: atY.filter vx_no, vx_ot w = true := by decide +kernel
def xP3 (U : State) : Prop := ∃ a, vk_R RX11 271 "no such thing of a bundle" a U
def xPx (D : va_G) (kA : Nat → ClassId) (b0 : Nat) (t0 : Nat → Nat) (S : xT) (g : xG) (U : State) : Prop := xPre D kA b0 t0 S g U ∧ tsr (fun q => b0 ≤ q) U U.heap ∧ xP3 U
theorem xPx.blind {D : va_G} {kA : Nat → ClassId} {b0 : Nat} {t0 : Nat → Nat} {S : xT} {g : xG} {av : List Value} : FrameBlind (va_Pc av (fun U => xPx D kA b0 t0 S g U)) := by
  intro a U f mk q
  obtain ⟨q0, ⟨q1, q2, q3, q4, q5, q6⟩, q7, q8⟩ := q
  exact ⟨q0, ⟨q1, q2, va_K.moved (u := U) (U := U.calling f mk a) (Vm.Alike.refl U.vm) q3, q4, xWd_same rfl q5, xSt.moved (u := U) (U := U.calling f mk a) (Vm.Alike.refl U.vm) q6⟩, tsr_same rfl q7, q8.imp fun _ z => z.same rfl⟩
def xXc (D : va_G) (kA : Nat → ClassId) (b0 : Nat) (S : xT) (g : xG) : String → State → State → Prop := fun E st t => E = pbX ∧ xR D kA b0 S g t.heap ∧ va_F (fun q => b0 ≤ q) st t
def xMx (l : Launch) (y : MethodName) (cy : ByteArray) (mx rf rl : Nat) (D : va_G) (kA : Nat → ClassId) (b0 : Nat) (t0 : Nat → Nat) (av : List Value) (S : xT) (g : xG) (post : Option Value → xT → xG → Prop) : Prop :=
  vx_Met l y (Cond.code y cy mx (some .int) :: wsY) ({ frames := rf, cells := 1, slots := 6, locals := rl }) (va_Pc av (fun U => xPx D kA b0 t0 S g U)) (xQc D kA b0 [] S g post) (xXc D kA b0 S g) 1 6 (fun q => b0 ≤ q)
theorem xEnterX {y : MethodName} {cy : ByteArray} {mx rf rl : Nat} {l : Launch} {D : va_G} {kA : Nat → ClassId} {b0 : Nat} {t0 : Nat → Nat} {av : List Value} {S : xT} {g : xG} {post : Option Value → xT → xG → Prop} (hst : l.stackTraces = false) (hyc : y.cls = RX11) (hy : plainName y.cls = true) (hlen : (lg_sl av).length ≤ mx) (lv0 : List (Nat × Value)) (hlv : lv_args 0 av = lv0) (hrf : 2 + 3 < rf) (hrl : (([] : List Value).map fun v => v.category).sum + (13 * (2 + 1) + 43) ≤ rl)
    (body : ∀ (K : xCx) (E : xEn), xK K E y.cls cy [] mx rf 1 6 rl → xRetI K E cy 1 6 post → (∀ (pc : Nat) (lv : List (Nat × Value)), decode cy pc = .ok (.new 252, 3) → decode cy (pc + 3) = .ok (.dup, 1) → decode cy (pc + 4) = .ok (.ldc 254, 2) → decode cy (pc + 6) = .ok (.invokespecial 256, 3) → decode cy (pc + 9) = .ok (.athrow, 1) → X K E pc lv [] S g 0 0) → (∀ (pc : Nat) (lv : List (Nat × Value)), decode cy pc = .ok (.new 252, 3) → decode cy (pc + 3) = .ok (.dup, 1) → decode cy (pc + 4) = .ok (.ldc_w 271, 3) → decode cy (pc + 7) = .ok (.invokespecial 256, 3) → decode cy (pc + 10) = .ok (.athrow, 1) → X K E pc lv [] S g 0 0) → (∀ (pc : Nat) (lv : List (Nat × Value)), decode cy pc = .ok (.new 252, 3) → decode cy (pc + 3) = .ok (.dup, 1) → decode cy (pc + 4) = .ok (.ldc_w 273, 3) → decode cy (pc + 7) = .ok (.invokespecial 256, 3) → decode cy (pc + 10) = .ok (.athrow, 1) → X K E pc lv [] S g 0 0) → X K E 0 lv0 [] S g 0 0) : xMx l y cy mx rf rl D kA b0 t0 av S g post := by
  refine vx_ofW (cc := cy) (maxL := mx) (ret := (some .int)) hy rfl ?_
  intro p e s m args below meth c s₁ B hml hnt hv
  obtain ⟨rfl, ⟨hR1, hW1, hVK, hb0, hns, hal⟩, hT, h271⟩ := hv
  have hr := B.returns
  have hts := atoms_spec (ws := Cond.code y cy mx (some .int) :: wsY) B.pre
  have hwx : ∀ w ∈ wsY, w.before _ s = true := fun w h => hts w (List.mem_cons_of_mem _ h)
  have hws : ∀ w ∈ wsL_law, w.before _ s = true := fun w h => hwx w (List.mem_append_left _ h)
  have hlocks := B.notSynchronized
  have hK : xK (p, l, e, (headSpec (Cond.code y cy mx (some .int) :: wsY) ({ frames := rf, cells := 1, slots := 6, locals := rl })).room, s, m, av.toArray, below, meth, c, vx_MQ below (xQc D kA b0 [] S g post) (xXc D kA b0 S g) av.toArray s 1 6 (fun q => b0 ≤ q)) (D, kA, b0, S, g, [], mx, t0) y.cls cy [] mx rf 1 6 rl :=
    ⟨B.exec, B.bytes, hml, findClass_of_methodNamed B.named, hws, hVK, hb0, hns, hal, rfl, rfl, rfl, rfl, rfl, rfl⟩
  have h9 := body _ _ hK (by
    intro pc lv z S1 g1 cells slots hd hp hc1 hc2 H locs ls h1 h2 h3 h4 h5 h6
    refine vx_ret ?_
    refine W.widen hc1 hc2 ?_
    exact W.iret (v := iI z) hK.1 hK.2.1 hr (fun t ht hW => ⟨⟨_, S1, g1, rfl, hp, h3, h4, by rw [ht]; exact h1, h2⟩, h5.F ht⟩) h5.2.2 hd)
  have hl := lv_entry av (n := mx) hlen
  rw [lg_entry_eq]
  rw [hlv] at hl
  refine h9 ?_ ?_ ?_ s.heap [] _ hR1 hW1 xLe.rf xM.rf va_S.rf hl
  · intro pc lv d0 d3 d4 d6 d9 H locs ls h1 h2 h3 h4 h5 h6
    exact pb_throwS (text := "no such bundle") (ik := 252) (is := 254) (A := fun q => b0 ≤ q) B.exec B.bytes hst (hyc ▸ findClass_of_methodNamed B.named) (hws _ m_41_20) (hws _ m_41_21) hT.2.1.choose_spec (tsr_words (fun w h => hwx w (List.mem_append_right _ h)) hT.1) tsr_good hT.2.2.2.1 hT.2.2.2.2 h5 (h6.1.trans hml.symm) d0 d3 d4 d6 d9 (fun x h => (hnt x h).elim) hrf hrl (Nat.le_refl _) (Nat.le_refl _) hlocks (fun t _ hz hk => ⟨rfl, fun a9 t9 n9 hp => ⟨(h1 a9 t9 n9 hp).1, (h1 a9 t9 n9 hp).2.kept (hk a9 (h1 a9 t9 n9 hp).2.lt)⟩, Nat.le_trans h5.1 hz, fun q w1 w2 => (hk q (Nat.lt_of_lt_of_le w1 h5.1)).trans (h5.2.1 q w1 w2)⟩) h5.2.2 (by decide) (by decide)
  · intro pc lv d0 d3 d4 d6 d9 H locs ls h1 h2 h3 h4 h5 h6
    exact pb_throwSW (text := "no such thing of a bundle") (ik := 252) (is := 271) (A := fun q => b0 ≤ q) B.exec B.bytes hst (hyc ▸ findClass_of_methodNamed B.named) (hws _ m_41_20) (hws _ m_41_21) h271.choose_spec (tsr_words (fun w h => hwx w (List.mem_append_right _ h)) hT.1) tsr_good hT.2.2.2.1 hT.2.2.2.2 h5 (h6.1.trans hml.symm) d0 d3 d4 d6 d9 (fun x h => (hnt x h).elim) hrf hrl (Nat.le_refl _) (Nat.le_refl _) hlocks (fun t _ hz hk => ⟨rfl, fun a9 t9 n9 hp => ⟨(h1 a9 t9 n9 hp).1, (h1 a9 t9 n9 hp).2.kept (hk a9 (h1 a9 t9 n9 hp).2.lt)⟩, Nat.le_trans h5.1 hz, fun q w1 w2 => (hk q (Nat.lt_of_lt_of_le w1 h5.1)).trans (h5.2.1 q w1 w2)⟩) h5.2.2 (by decide) (by decide)
  · intro pc lv d0 d3 d4 d6 d9 H locs ls h1 h2 h3 h4 h5 h6
    exact pb_throwSW (text := "no such boy") (ik := 252) (is := 273) (A := fun q => b0 ≤ q) B.exec B.bytes hst (hyc ▸ findClass_of_methodNamed B.named) (hws _ m_41_20) (hws _ m_41_21) hT.2.2.1.choose_spec (tsr_words (fun w h => hwx w (List.mem_append_right _ h)) hT.1) tsr_good hT.2.2.2.1 hT.2.2.2.2 h5 (h6.1.trans hml.symm) d0 d3 d4 d6 d9 (fun x h => (hnt x h).elim) hrf hrl (Nat.le_refl _) (Nat.le_refl _) hlocks (fun t _ hz hk => ⟨rfl, fun a9 t9 n9 hp => ⟨(h1 a9 t9 n9 hp).1, (h1 a9 t9 n9 hp).2.kept (hk a9 (h1 a9 t9 n9 hp).2.lt)⟩, Nat.le_trans h5.1 hz, fun q w1 w2 => (hk q (Nat.lt_of_lt_of_le w1 h5.1)).trans (h5.2.1 q w1 w2)⟩) h5.2.2 (by decide) (by decide)
section XCX
variable {K : xCx} {E : xEn} {own : String} {cc : ByteArray} {Lw : List (Nat × Nat)} {nL rf rc rs rl : Nat} {pc : Nat} {lv : List (Nat × Value)} {st : List Value} {S : xT} {g : xG} {cells slots : Nat}
theorem xPxOf (hK : xK K E own cc Lw nL rf rc rs rl) {H : Heap} {locs : List Loc} (hT : tsr (fun q => E.2.2.1 ≤ q) K.2.2.2.2.1 K.2.2.2.2.1.heap) (h3 : xP3 K.2.2.2.2.1) (h1 : xR E.1 E.2.1 E.2.2.1 S g H) (h2 : xW S g) (h5 : va_S (fun q => E.2.2.1 ≤ q) K.2.2.2.2.1.heap H locs) (U : State) (hU : U.heap = H) (hW : K.2.2.2.2.1.WarmedH U.vm) : xPx E.1 E.2.1 E.2.2.1 E.2.2.2.2.2.2.2 S g U :=
  ⟨xPreOf hK h1 h2 h5 U hU hW, by rw [hU]; exact tsr_go hW (fun a ha hn => h5.2.1 a ha hn) (fun _ h => h) hT, h3.imp fun _ z => z.warm hW⟩
theorem X_callX (hK : xK K E own cc Lw nL rf rc rs rl) (hwx : ∀ w ∈ wsY, w.before K.2.2.2.2.2.2.1 K.2.2.2.2.1 = true) (hT : tsr (fun q => E.2.2.1 ≤ q) K.2.2.2.2.1 K.2.2.2.2.1.heap) (hp3 : xP3 K.2.2.2.2.1) {post : Option Value → xT → xG → Prop} {idx mx rf1 rl1 n a t q : Nat} {y : MethodName} {cy : ByteArray} {T : u_T} {N : Nat} (As rest : List Value) (hw : xLV own idx y cy mx (some .int) n) (hM : xMx K.2.1 y cy mx rf1 rl1 E.1 E.2.1 E.2.2.1 E.2.2.2.2.2.2.2 (.ref a :: As) S g post) (hs : S a = some (t, q)) (hcl : t < 10000 ∧ vwCl[t % 100]? = some (y.cls, T, N)) (hd : decode cc pc = .ok (.invokevirtual idx, 3)) (hst : st = As.reverse ++ .ref a :: rest) (hn : As.length = n) (hc : (rest.map fun v => v.category).sum ≤ 8) (hrm : rf1 + 1 ≤ rf ∧ 8 + (mx + 11) + rl1 ≤ rl) (hrc : cells + 1 ≤ rc) (hrs : slots + 6 ≤ rs)
    (kk : ∀ (r : Option Value) (S1 : xT) (g1 : xG), post r S1 g1 → xLe S S1 → xM [] S g g1 → X K E (pc + 3) lv (r.toList ++ rest) S1 g1 (cells + 1) (slots + 6))
    (kx : ∀ (q9 : Addr) (ce : Cell) (H : Heap) (locs : List Loc) (ls : Array Slot), xR E.1 E.2.1 E.2.2.1 S g H → xW S g → xLe E.2.2.2.1 S → xM E.2.2.2.2.2.1 E.2.2.2.1 E.2.2.2.2.1 g → va_S (fun q => E.2.2.1 ≤ q) K.2.2.2.2.1.heap H locs → lv_has ls E.2.2.2.2.2.2.1 lv → H[q9]? = some ce → ce.vm = .none → K.2.2.2.2.1.vm.findClass pbX = some ce.cls →
      vx_W K.1 K.2.1 K.2.2.1 K.2.2.2.1 K.2.2.2.2.1 K.2.2.2.2.2.1 K.2.2.2.2.2.2.1 K.2.2.2.2.2.2.2.1 K.2.2.2.2.2.2.2.2.1 K.2.2.2.2.2.2.2.2.2.1 H locs (cells + 1) (slots + 6) K.2.2.2.2.2.2.2.2.2.2 (F0 K.2.2.2.2.2.1 pc ls rest) q9) : X K E pc lv st S g cells slots := by
  subst hst
  intro H locs ls h1 h2 h3 h4 h5 h6
  obtain ⟨w1, w2, w3, w4, w5, w6⟩ := hw
  have hr := vx_runV (As := As) (rest := rest) (C := y.cls) (g := F0 K.2.2.2.2.2.1 pc ls (As.reverse ++ .ref a :: rest)) (H := H) (locs := locs) (cells := cells) (slots := slots) (e := K.2.2.1) (below := K.2.2.2.2.2.2.2.1) (meth := K.2.2.2.2.2.2.2.2.1) ⟨hK.1, hK.2.1, hK.2.2.1.trans (hK.2.2.2.2.2.2.2.2.2.2.2.2.2.1).symm, hK.2.2.2.1, hwx⟩ hM (cwV n hwx (gy_V w1 w2 w3 w4 w5) rfl rfl rfl ⟨rfl, w6⟩ ⟨by rw [hK.2.2.2.2.2.2.2.2.2.1]; exact hrm.1, by rw [hK.2.2.2.2.2.2.2.2.2.2.2.2.1]; exact hrm.2⟩) ⟨xPx.blind, xRecv hK.2.2.2.2.2.1 h1 hs hcl.1 hcl.2, fun U hU hW => ⟨rfl, xPxOf hK hT hp3 h1 h2 h5 U hU hW⟩⟩ rfl hn h6.1 rfl (lv_room hc) hd ⟨by rw [hK.2.2.2.2.2.2.2.2.2.2.1]; exact hrc, by rw [hK.2.2.2.2.2.2.2.2.2.2.2.1]; exact hrs⟩
  intro T hTT X
  rcases hr T hTT X with ⟨v, st₀, t, T', L, k0, X', hL', e1, e2, ⟨⟨r, S1, g1, hv, hp, hle, hm, hR1, hW1⟩, hz, hk⟩, st'⟩ | ⟨q, st₀, t, T', L, E', ce, k0, X', hL', e1, e2, ⟨rfl, hRx, hz, hk⟩, hce, hcv, hcl', st'⟩
  · cases hv
    rw [k0] at hz hk
    obtain ⟨t2, a1, b1⟩ := kk _ S1 g1 hp hle hm T'.heap (locs ++ L) ls (by rw [e1]; exact hR1) hW1 (h3.tr hle) (h4.tr h3 hm (fun q hq => absurd hq List.not_mem_nil)) ⟨Nat.le_trans h5.1 (by rw [e1]; exact hz), fun q w1 w2 => by rw [e1, hk q (Nat.lt_of_lt_of_le w1 h5.1) w2]; exact h5.2.1 q w1 w2, fun q hq => by
        rcases List.mem_append.mp hq with h | h
        · exact h5.2.2 q h
        · exact hL' q h⟩ h6 T' rfl X'
    exact ⟨t2, st' t2 a1, b1⟩
  · rw [k0] at hz hk
    obtain ⟨t2, a1, b1⟩ := kx q ce T'.heap (locs ++ L) ls (by rw [e1]; exact hRx) h2 h3 h4 ⟨Nat.le_trans h5.1 (by rw [e1]; exact hz), fun q w1 w2 => by rw [e1, hk q (Nat.lt_of_lt_of_le w1 h5.1) w2]; exact h5.2.1 q w1 w2, fun q hq => by
        rcases List.mem_append.mp hq with h | h
        · exact h5.2.2 q h
        · exact hL' q h⟩ h6 (by rw [e1]; exact hce) hcv hcl' T' rfl X'
    exact ⟨t2, st'.trans a1, b1⟩
end XCX
set_option maxHeartbeats 4000000 in
set_option maxRecDepth 100000 in
theorem cx_X11_of (l : Launch) (hst : l.stackTraces = false) (D : va_G) (kA : Nat → ClassId) (b0 : Nat) (t0 : Nat → Nat) (S : xT) (g : xG) (a0 : Nat) (x1 : Int) (x2 : Int) (hs_a0 : S a0 = some (12, 0)) (hx1 : (-2147483648) ≤ x1 ∧ x1 ≤ 2147483647) (hx2 : (-2147483648) ≤ x2 ∧ x2 ≤ 2147483647) (hp0 : xLs S g) : xMx l yX11_of cX11_of 4 6 82 D kA b0 t0 [.ref a0, .int (iI x1), .int (iI x2)] S g (fun (r : Option Value) (S1 : xT) (g1 : xG) => S = S1 ∧ g = g1 ∧ ∃ z : Int, r = some (.int (iI z)) ∧ (-2147483648) ≤ z ∧ z ≤ 2147483647) := by
  refine xEnterX hst rfl (by decide) (by simp [lg_sl, Value.category]) [(0, .ref a0), (1, .int (iI x1)), (2, .int (iI x2))] rfl (by decide) (by decide) ?_
  intro K E hK hret thrS thrT thrU
  refine X_aloadn hK (i := 0) 0 kd51_1.2.2.2.2.2.2.1 rfl rfl ?_
  refine X_getr hK 6 0 fl_X11_19_12 hs_a0 sl_12_1 kd51_1.2.2.2.2.2.2.2.1 (fun b1 eb1 hs_b1 => ?_)
  refine X_iloadn hK (i := 1) 1 kd51_1.2.2.2.2.2.2.2.2.1 rfl rfl ?_
  refine X_knowr 100 0 hs_b1 (by decide) sl_6_2 (fun b2 eb2 hs_b2 => ?_)
  refine X_callV hK [.int (iI x1)] [] lk_X11_221 (c2_hasBundle _ _ _ _ _ S g b1 x1 b2 hs_b1 (by omega) eb2 hs_b2 hp0) hs_b1 ⟨by decide, rfl⟩ kd51_1.2.2.2.2.2.2.2.2.2.1 rfl rfl (by simp [Value.category]) (by decide) (by decide) (by decide) (by decide) (fun r3 S5 g4 pr3 qr3 hg4 => ?_)
  obtain ⟨rfl, rfl, z6, rfl, lz6, uz6, k7⟩ := pr3
  refine X_st [.int (iI z6)] rfl ?_
  obtain ⟨z8, ez8, lz8, uz8, kz8⟩ := k7
  refine X_if_ne hK 21 (by omega) kd51_1.2.2.2.2.2.2.2.2.2.2.1 (by decide) (fun c9 => ?_) (fun c9 => ?_)
  · refine X_aloadn hK (i := 0) 0 kd51_2.2.2.2.2.1 rfl rfl ?_
    refine X_getK hK fl_X11_19_12 hs_a0 eb1 kd51_2.2.2.2.2.2.1 ?_
    refine X_getK hK fl_X11_205_6 hs_b1 eb2 kd51_2.2.2.2.2.2.2.1 ?_
    refine X_iloadn hK (i := 1) 1 kd51_2.2.2.2.2.2.2.2.1 rfl rfl ?_
    refine X_callV hK [.int (iI x1)] [] lk_X11_135 (c_get_100 _ _ _ _ _ S g b2 x1 z8 hs_b2 (by omega) (by omega) ez8 hp0 (by omega)) hs_b2 ⟨by decide, rfl⟩ kd51_2.2.2.2.2.2.2.2.2.1 rfl rfl (by simp [Value.category]) (by decide) (by decide) (by decide) (by decide) (fun r10 S12 g11 pr10 qr10 hg11 => ?_)
    obtain ⟨rfl, rfl, b13, rfl, hs_b13⟩ := pr10
    refine X_st [.ref b13] rfl ?_
    refine X_cast hK hs_b13 ⟨by decide, rfl⟩ m_32_22 kd51_2.2.2.2.2.2.2.2.2.2.1 ?_
    refine X_astoren hK (i := 3) [(3, .ref b13), (0, .ref a0), (1, .int (iI x1)), (2, .int (iI x2))] kd51_2.2.2.2.2.2.2.2.2.2.2.1 rfl (by decide) rfl ?_
    refine X_iloadn hK (i := 2) 3 kd51_2.2.2.2.2.2.2.2.2.2.2.2 rfl rfl ?_
    rcases (show (x2 < 0 ∨ 4 < x2) ∨ x2 = 0 ∨ x2 = 1 ∨ x2 = 2 ∨ x2 = 3 ∨ x2 = 4 by omega) with c14 | c14 | c14 | c14 | c14 | c14
    · refine X_tableOut hK 97 (by omega) c14 kd51_3.1 (by decide) ?_
      exact thrT _ _ kd51_4.2.2.2.2.1 kd51_4.2.2.2.2.2.1 kd51_4.2.2.2.2.2.2.1 kd51_4.2.2.2.2.2.2.2.1 kd51_4.2.2.2.2.2.2.2.2
    · refine X_tableIn hK 72 0 (by decide) c14 (by decide) (by decide) kd51_3.1 rfl (by decide) ?_
      refine X_aloadn hK (i := 3) 0 kd51_3.2.1 rfl rfl ?_
      refine X_geti hK fl_X11_224_2 hs_b13 sl_2_5 kd51_3.2.2.1 (fun z15 ez15 lz15 uz15 => ?_)
      exact hret _ _ _ _ _ _ _ kd51_3.2.2.2.1 ⟨rfl, rfl, z15, rfl, (by omega), (by omega)⟩ (by decide) (by decide)
    · refine X_tableIn hK 77 1 (by decide) c14 (by decide) (by decide) kd51_3.1 rfl (by decide) ?_
      refine X_aloadn hK (i := 3) 0 kd51_3.2.2.2.2.1 rfl rfl ?_
      refine X_geti hK fl_X11_259_2 hs_b13 sl_2_8 kd51_3.2.2.2.2.2.1 (fun z16 ez16 lz16 uz16 => ?_)
      exact hret _ _ _ _ _ _ _ kd51_3.2.2.2.2.2.2.1 ⟨rfl, rfl, z16, rfl, (by omega), (by omega)⟩ (by decide) (by decide)
    · refine X_tableIn hK 82 2 (by decide) c14 (by decide) (by decide) kd51_3.1 rfl (by decide) ?_
      refine X_aloadn hK (i := 3) 0 kd51_3.2.2.2.2.2.2.2.1 rfl rfl ?_
      refine X_geti hK fl_X11_262_2 hs_b13 sl_2_9 kd51_3.2.2.2.2.2.2.2.2.1 (fun z17 ez17 lz17 uz17 => ?_)
      exact hret _ _ _ _ _ _ _ kd51_3.2.2.2.2.2.2.2.2.2.1 ⟨rfl, rfl, z17, rfl, (by omega), (by omega)⟩ (by decide) (by decide)
    · refine X_tableIn hK 87 3 (by decide) c14 (by decide) (by decide) kd51_3.1 rfl (by decide) ?_
      refine X_aloadn hK (i := 3) 0 kd51_3.2.2.2.2.2.2.2.2.2.2.1 rfl rfl ?_
      refine X_geti hK fl_X11_265_2 hs_b13 sl_2_10 kd51_3.2.2.2.2.2.2.2.2.2.2.2 (fun z18 ez18 lz18 uz18 => ?_)
      exact hret _ _ _ _ _ _ _ kd51_4.1 ⟨rfl, rfl, z18, rfl, (by omega), (by omega)⟩ (by decide) (by decide)
    · refine X_tableIn hK 92 4 (by decide) c14 (by decide) (by decide) kd51_3.1 rfl (by decide) ?_
      refine X_aloadn hK (i := 3) 0 kd51_4.2.1 rfl rfl ?_
      refine X_geti hK fl_X11_268_2 hs_b13 sl_2_7 kd51_4.2.2.1 (fun z19 ez19 lz19 uz19 => ?_)
      exact hret _ _ _ _ _ _ _ kd51_4.2.2.2.1 ⟨rfl, rfl, z19, rfl, (by omega), (by omega)⟩ (by decide) (by decide)
  · exact thrS _ _ kd51_1.2.2.2.2.2.2.2.2.2.2.2 kd51_2.1 kd51_2.2.1 kd51_2.2.2.1 kd51_2.2.2.2.1

set_option maxHeartbeats 4000000 in
set_option maxRecDepth 100000 in
theorem cx_X11_coin (l : Launch) (hst : l.stackTraces = false) (D : va_G) (kA : Nat → ClassId) (b0 : Nat) (t0 : Nat → Nat) (S : xT) (g : xG) (a0 : Nat) (x1 : Int) (hs_a0 : S a0 = some (12, 0)) (hx1 : (-2147483648) ≤ x1 ∧ x1 ≤ 2147483647) (hp0 : xLs S g) : xMx l yX11_coin cX11_coin 2 6 82 D kA b0 t0 [.ref a0, .int (iI x1)] S g (fun (r : Option Value) (S1 : xT) (g1 : xG) => S = S1 ∧ g = g1 ∧ ∃ z : Int, r = some (.int (iI z)) ∧ (-2147483648) ≤ z ∧ z ≤ 2147483647) := by
  refine xEnterX hst rfl (by decide) (by simp [lg_sl, Value.category]) [(0, .ref a0), (1, .int (iI x1))] rfl (by decide) (by decide) ?_
  intro K E hK hret thrS thrT thrU
  refine X_aloadn hK (i := 0) 0 kd51_0.1 rfl rfl ?_
  refine X_getr hK 6 0 fl_X11_19_12 hs_a0 sl_12_1 kd51_0.2.1 (fun b1 eb1 hs_b1 => ?_)
  refine X_iloadn hK (i := 1) 1 kd51_0.2.2.1 rfl rfl ?_
  refine X_knowr 0 0 hs_b1 (by decide) sl_6_1 (fun b2 eb2 hs_b2 => ?_)
  refine X_callV hK [.int (iI x1)] [] lk_X11_132 (c2_hasBoy _ _ _ _ _ S g b1 x1 b2 hs_b1 (by omega) eb2 hs_b2 hp0) hs_b1 ⟨by decide, rfl⟩ kd51_0.2.2.2.1 rfl rfl (by simp [Value.category]) (by decide) (by decide) (by decide) (by decide) (fun r3 S5 g4 pr3 qr3 hg4 => ?_)
  obtain ⟨rfl, rfl, z6, rfl, lz6, uz6, k7⟩ := pr3
  refine X_st [.int (iI z6)] rfl ?_
  obtain ⟨z8, ez8, lz8, uz8, kz8⟩ := k7
  refine X_if_ne hK 22 (by omega) kd51_0.2.2.2.2.1 (by decide) (fun c9 => ?_) (fun c9 => ?_)
  · refine X_aloadn hK (i := 0) 0 kd51_0.2.2.2.2.2.2.2.2.2.2.1 rfl rfl ?_
    refine X_getK hK fl_X11_19_12 hs_a0 eb1 kd51_0.2.2.2.2.2.2.2.2.2.2.2 ?_
    refine X_getK hK fl_X11_109_6 hs_b1 eb2 kd51_1.1 ?_
    refine X_iloadn hK (i := 1) 1 kd51_1.2.1 rfl rfl ?_
    refine X_callV hK [.int (iI x1)] [] lk_X11_135 (c_get_0 _ _ _ _ _ S g b2 x1 z8 hs_b2 (by omega) (by omega) ez8 hp0 (by omega)) hs_b2 ⟨by decide, rfl⟩ kd51_1.2.2.1 rfl rfl (by simp [Value.category]) (by decide) (by decide) (by decide) (by decide) (fun r10 S12 g11 pr10 qr10 hg11 => ?_)
    obtain ⟨rfl, rfl, b13, rfl, hs_b13⟩ := pr10
    refine X_st [.ref b13] rfl ?_
    refine X_cast hK hs_b13 ⟨by decide, rfl⟩ m_12_0 kd51_1.2.2.2.1 ?_
    refine X_geti hK fl_X11_275_1 hs_b13 sl_1_5 kd51_1.2.2.2.2.1 (fun z14 ez14 lz14 uz14 => ?_)
    exact hret _ _ _ _ _ _ _ kd51_1.2.2.2.2.2.1 ⟨rfl, rfl, z14, rfl, (by omega), (by omega)⟩ (by decide) (by decide)
  · exact thrU _ _ kd51_0.2.2.2.2.2.1 kd51_0.2.2.2.2.2.2.1 kd51_0.2.2.2.2.2.2.2.1 kd51_0.2.2.2.2.2.2.2.2.1 kd51_0.2.2.2.2.2.2.2.2.2.1
