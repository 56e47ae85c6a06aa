def pbX : String := "java/util/NoSuchElementException"
def atY : List Cond := Bundle.throwableAtoms ++ Bundle.throwableSAtoms ++ (Bundle.passSAtoms pbX "java/lang/RuntimeException" 13 prog_33_method_4_code ++ Bundle.chainSAtoms "java/lang/RuntimeException" ["java/lang/Exception"]) ++
  [.methodLink RX11 256 (Bundle.initS pbX), .instantiable pbX 6, .castable pbX pbX, .selects pbX Bundle.tFill0 Bundle.tFill0, .selects pbX Bundle.tFill Bundle.tFill,
   .lays pbX Bundle.tN "cause" "Ljava/lang/Throwable;", .lays pbX Bundle.tN "stackTrace" Bundle.steD, .lays pbX Bundle.tN "suppressedExceptions" Bundle.listD, .lays pbX Bundle.tN "detailMessage" "Ljava/lang/String;",
   .isRef (.static Bundle.tN "UNASSIGNED_STACK" Bundle.steD), .isRef (.static Bundle.tN "SUPPRESSED_SENTINEL" Bundle.listD),
   .fieldLink Bundle.tN 198 Bundle.tN "backtrace" "Ljava/lang/Object;", .lays Bundle.tN Bundle.tN "backtrace" "Ljava/lang/Object;", .lays pbX Bundle.tN "backtrace" "Ljava/lang/Object;"]
theorem nb_0 : decode prog_33_method_4_code 0 = .ok (.aload_n 0, 1) := by decide +kernel
theorem nb_1 : decode prog_33_method_4_code 1 = .ok (.aload_n 1, 1) := by decide +kernel
theorem nb_2 : decode prog_33_method_4_code 2 = .ok (.invokespecial 13, 3) := by decide +kernel
theorem nb_5 : decode prog_33_method_4_code 5 = .ok (.return_, 1) := by decide +kernel
theorem pb_chain {args : Array Value} {s : State} {pl : Platform} (hpl : pl.magicAccessors = ({} : Platform).magicAccessors) {top : MethodId} (htop : s.methodNamed? (Bundle.initS Bundle.tN) = some top) (h : ∀ c ∈ Bundle.passSAtoms pbX "java/lang/RuntimeException" 13 prog_33_method_4_code ++ Bundle.chainSAtoms "java/lang/RuntimeException" ["java/lang/Exception"], c.before args s = true) :
    ∃ (P1 : PassC) (Ps : List PassC), Ps.length = 2 ∧ P1.LinksS pl s ∧ (∀ P, P ∈ Ps → P.LinksS pl s) ∧ s.methodNamed? (Bundle.initS pbX) = some P1.m ∧ P1.sup = firstOf top (Ps.map (·.toPassT)) ∧ PassesOn top (Ps.map (·.toPassT)) := by
  obtain ⟨P, L, hm, hs⟩ := PassC.ofS_atoms (args := args) (s := s) hpl (X := pbX) (Y := "java/lang/RuntimeException") (by decide) (by decide) nb_0 nb_1 nb_2 nb_5 (fun c hc => h c (List.mem_append_left _ hc))
  obtain ⟨P', Ps, hlen, L', hL, hm', hsup, hpass⟩ := Bundle.chainS (args := args) hpl htop ["java/lang/Exception"] "java/lang/RuntimeException" (by decide) (by decide) (fun c hc => h c (List.mem_append_right _ hc))
  refine ⟨P, P' :: Ps, by simp [hlen], L, ?_, hm, Option.some.inj (hs.symm.trans hm'), hsup, hpass⟩
  intro Q hQ
  rcases List.mem_cons.mp hQ with rfl | hQ
  · exact L'
  · exact hL Q hQ
section PBT
variable {p : Program} {l : Launch} {e : Env} {R : Room} {s : State} {m₀ : MethodId} {args : Array Value} {below : List Frame} {meth : Method} {c : Code} {W : State} {locs : List Loc} {cells slots : Nat}
set_option maxHeartbeats 1000000 in
theorem pb_ctor (X : Stand p l e R s m₀ args below meth c W locs cells slots) (hexec : p.tables.exec = Jvm.exec) (htr : e.platform.stackTraces = false)
    (hown : s.vm.findClass RX11 = some m₀.cls)
    (h : ∀ a ∈ atY, a.before args s = true)
    (hlocs : ∀ x ∈ locs, ∀ cell, s.heap[x.base]? = some cell → cell.vm.isStatics = false)
    {a : Addr} {cX : ClassId} {kX : Class} (hfoundX : s.vm.findClass pbX = some cX) (hkX : s.vm.classes[cX]? = some kX) (hcell : W.heap[a]? = some (freshCell cX kX)) (hnew : s.heap.size ≤ a)
    {msg : Value} (hmsg : msg.isRef = true)
    {g : JFrame} (hg : g.method = m₀) (hsize : g.locals.size = c.maxLocals) (hlocked : g.locked = none) (hentered : g.entered = []) {rest : List Value} (hstack : g.stack = msg :: .ref a :: .ref a :: rest)
    (hd6 : decode c.code g.pc = .ok (.invokespecial 256, 3)) (hd9 : decode c.code (g.pc + 3) = .ok (.athrow, 1)) (hout : ∀ x ∈ c.exceptionTable.toList, covers x (g.pc + 3) = false)
    (hRframes : 2 + 3 < R.frames) (hRlocals : 2 * g.monitorRoom + ((Value.ref a :: rest).map fun v => v.category).sum + (13 * (2 + 1) + 42) ≤ R.locals) (hlocks : meth.locks = false := by first | assumption | exact BodyLoose.notSynchronized (by assumption) | exact Body.notSynchronized (by assumption)) :
    ∃ U : State, Steps p.tables e below (W.setTop g) U ∧ U.status = .running ∧ Ended U below (.threw a) ∧ s.WarmedH U.vm ∧ s.sameButNew ({ U with vm := s.vm } : State) locs cells slots ∧
      ∃ ce, U.heap[a]? = some ce ∧ ce.vm = .none ∧ s.vm.findClass pbX = some ce.cls := by
  have howns : e.platform.frameOwnsMonitors = true := by rw [X.admits.platform]
  have hfin : e.platform.finalization = false := by rw [X.admits.platform]
  have hpl : e.platform.magicAccessors = ({} : Platform).magicAccessors := by rw [X.admits.platform]
  have a' : ∀ x, x ∈ atY → x.holds args s none s [] = true := fun x hx => h x hx
  obtain ⟨T, Z0, L, -, Y⟩ := ThrowableC.of_atoms (args := args) howns hfin hpl (fun x hx => h x (List.mem_append_left _ (List.mem_append_left _ (List.mem_append_left _ hx))))
  obtain ⟨Z, M, LZ, LM, hnZ⟩ := Init0T.ofS_atoms (args := args) hpl L Y (fun x hx => h x (List.mem_append_left _ (List.mem_append_left _ (List.mem_append_right _ hx))))
  obtain ⟨P1, Ps, hlen, L1, hL, hP1m, hlink1, hlink⟩ := pb_chain (args := args) hpl hnZ (fun x hx => h x (List.mem_append_left _ (List.mem_append_right _ hx)))
  have hfound : s.vm.findClass pbX = some P1.m.cls := findClass_of_methodNamed hP1m
  cases Option.some.inj (hfoundX.symm.trans hfound)
  obtain ⟨c1, kX', hc1, hk, hord, -, -, hn6⟩ := Cond.instantiable_spec (a' (.instantiable pbX 6) (List.mem_append_right _ (by simp)))
  cases Option.some.inj (hc1.symm.trans hfound)
  cases Option.some.inj (hkX.symm.trans hk)
  have hsel0 : selectMethod e.platform s.vm P1.m.cls T.fill0 = .method T.fill0 := by
    obtain ⟨c2, r2, m2, q1, q2, q3, q4, -⟩ := Cond.selects_spec (a' (.selects pbX Bundle.tFill0 Bundle.tFill0) (List.mem_append_right _ (by simp)))
    cases Option.some.inj (q1.symm.trans hfound)
    cases Option.some.inj (q2.symm.trans (State.methodFound?_of_named Y.fill0 (by decide)))
    cases Option.some.inj (q3.symm.trans Y.fill0)
    rw [Launch.admits_selectMethod X.admits]; exact q4
  have hselF : selectMethod e.platform s.vm P1.m.cls T.fill = .method T.fill := by
    obtain ⟨c2, r2, m2, q1, q2, q3, q4, -⟩ := Cond.selects_spec (a' (.selects pbX Bundle.tFill Bundle.tFill) (List.mem_append_right _ (by simp)))
    cases Option.some.inj (q1.symm.trans hfound)
    cases Option.some.inj (q2.symm.trans (State.methodFound?_of_named Y.fill (by decide)))
    cases Option.some.inj (q3.symm.trans Y.fill)
    rw [Launch.admits_selectMethod X.admits]; exact q4
  obtain ⟨cellS0, hcS0, hiss⟩ := Y.statics
  obtain ⟨u0, hu0⟩ := Cond.staticRefV Y.unassigned L.unassignedStatic L.statics hcS0 hiss (a' (.isRef (.static Bundle.tN "UNASSIGNED_STACK" Bundle.steD)) (List.mem_append_right _ (by simp)))
  obtain ⟨sen, hsen⟩ := Cond.staticRefV Y.sentinel L.sentinelStatic L.statics hcS0 hiss (a' (.isRef (.static Bundle.tN "SUPPRESSED_SENTINEL" Bundle.listD)) (List.mem_append_right _ (by simp)))
  obtain ⟨ci198, i198, fB, hk198, hg198, ha198, hsB, -, hnB, htB, hffB⟩ := Cond.ownField (t := .object "java/lang/Object") Y.found L.cls (by decide +kernel) (a' (.fieldLink Bundle.tN 198 Bundle.tN "backtrace" "Ljava/lang/Object;") (List.mem_append_right _ (by simp))) (a' (.lays Bundle.tN Bundle.tN "backtrace" "Ljava/lang/Object;") (List.mem_append_right _ (by simp))) e.platform hpl
  obtain ⟨cellS, hcS', heS, -, hkeep⟩ := X.same.2.2.2.2.2 T.aS cellS0 hcS0
  have hcellS : W.heap[T.aS]? = some cellS := hcS'
  have hout' : ∀ i, (⟨T.aS, i⟩ : Loc) ∉ locs := fun i hmem => by
    have := hlocs _ hmem cellS0 hcS0
    rw [hiss] at this; cases this
  have hknownS : cellS.vm ≠ .unknown := by
    rw [heS]; intro hu
    rw [show cellS0.vm = .unknown from hu] at hiss
    cases hiss
  have hneS : T.aS ≠ a := Nat.ne_of_lt (Nat.lt_of_lt_of_le (Array.getElem?_eq_some_iff.mp hcS0).1 hnew)
  obtain ⟨iM, hffM⟩ := Y.msg
  obtain ⟨tyC, dC, hdC, hdnC⟩ := Cond.laysAt hfound hk Y.cause (a' (.lays pbX Bundle.tN "cause" "Ljava/lang/Throwable;") (List.mem_append_right _ (by simp)))
  obtain ⟨tyS, dS, hdS, hdnS⟩ := Cond.laysAt hfound hk Y.stack (a' (.lays pbX Bundle.tN "stackTrace" Bundle.steD) (List.mem_append_right _ (by simp)))
  obtain ⟨tyP, dP, hdP, hdnP⟩ := Cond.laysAt hfound hk Y.supp (a' (.lays pbX Bundle.tN "suppressedExceptions" Bundle.listD) (List.mem_append_right _ (by simp)))
  obtain ⟨tyM, dM, hdM, hdnM⟩ := Cond.laysAt hfound hk hffM (a' (.lays pbX Bundle.tN "detailMessage" "Ljava/lang/String;") (List.mem_append_right _ (by simp)))
  obtain ⟨tyB, dB, hdB, hdnB⟩ := Cond.laysAt hfound hk hffB (a' (.lays pbX Bundle.tN "backtrace" "Ljava/lang/Object;") (List.mem_append_right _ (by simp)))
  have bC := Cond.laysApart hdB hdC hdnB hdnC (by rw [hnB, Y.causeName]; decide)
  have bS := Cond.laysApart hdB hdS hdnB hdnS (by rw [hnB, Y.stackName]; decide)
  have bP := Cond.laysApart hdB hdP hdnB hdnP (by rw [hnB, Y.suppName]; decide)
  have hskip : SkipFacts T e.platform s (fun u => u) u0 ((preparedCellV T.toThrowableT (freshCell P1.m.cls kX) a u0 sen).withEntry W.cur) :=
    ⟨{ ci198 := ci198, i198 := i198, fBack := fB }, ⟨hk198, hg198, ha198, hsB⟩, by
      have := fresh_default (c := P1.m.cls) tyB
      rw [htB] at this
      simpa [preparedCellV, Cell.setSlot, Cell.withEntry, Array.getElem?_setIfInBounds, bC, bS, bP, bC.symm, bS.symm, bP.symm, defaultValue] using this, fun _ _ => rfl⟩
  obtain ⟨tm, methC, cdC, kC, vm₁, hnC, -, -, -, -, -, -, -, hW₁, st1⟩ := Steps.initColdS (tb := p.tables) (e := e) (below := below) (s := s) (U := W) X.here hexec X.warmed hpl hown (t := Bundle.initS pbX) rfl rfl (by decide)
    (a' (.methodLink RX11 256 (Bundle.initS pbX)) (List.mem_append_right _ (by simp))) (h (.instanceMethod (Bundle.initS pbX)) (List.mem_append_left _ (List.mem_append_right _ (List.mem_append_left _ (by simp [Bundle.passSAtoms]))))) (bytes := prog_33_method_4_code) (maxL := 2) (h (.code (Bundle.initS pbX) prog_33_method_4_code 2 none) (List.mem_append_left _ (List.mem_append_right _ (List.mem_append_left _ (by simp [Bundle.passSAtoms])))))
    (f := g) hg (a := a) (msg := msg) (rest := .ref a :: rest) hstack hd6
  cases Option.some.inj (hnC.symm.trans hP1m)
  have X₁ := X.noted hW₁
  obtain ⟨vm₂, X₂, st2⟩ := X₁.ctorMessageOffV hexec (g := { g with stack := .ref a :: rest }) hg hsize T L Z LZ M LM (P1 :: Ps)
    (fun P hP => by rcases List.mem_cons.mp hP with rfl | hP; exact L1; exact hL P hP) ⟨hlink1, hlink⟩ (u0 := u0) (sen := sen) (self := a) hmsg (cell := freshCell P1.m.cls kX) (cellS := cellS)
    hcell (fun _ => by simp) (by simp) rfl rfl hsel0 hselF hcellS hneS hknownS (by rw [hkeep _ (hout' _)]; exact hu0) (by rw [hkeep _ (hout' _)]; exact hsen)
    (Takes.of_laid hk hord tyC (by rw [Y.causeType]; rfl)) (Takes.of_laid hk hord tyS (by rw [Y.stackType]; exact fits_refV_array _ u0)) (Takes.of_laid hk hord tyP (by rw [Y.suppType]; exact fits_refV_object _ sen))
    (Takes.of_laid hk hord tyM (by rw [Y.msgType]; exact fits_refV_object _ ⟨msg, hmsg⟩)) Y.objLocals hskip htr [] hd6
    (by simp only [List.length_cons, hlen]; omega) (by simp only [List.length_cons, hlen]; exact hRlocals)
  obtain ⟨hwalk, hrun, hended, hWU, hsame⟩ := X₂.athrowLeaves hexec (g := { g with stack := .ref a :: rest, pc := g.pc + 3 }) hg hlocked hentered hout (a := a) (rest := rest) rfl hd9
  obtain ⟨c3, c4, hc3, hc4, hasg⟩ := Cond.castable_spec (a' (.castable pbX pbX) (List.mem_append_right _ (by simp)))
  cases Option.some.inj (hc3.symm.trans hfound)
  cases Option.some.inj (hc4.symm.trans hfound)
  have hlt : a < ((W.setVm vm₁).setVm vm₂).heap.size := (Array.getElem?_eq_some_iff.mp hcell).1
  have hU := heapAt_setCell_self (s := (W.setVm vm₁).setVm vm₂) (plainBareV T.toThrowableT (freshCell P1.m.cls kX) a u0 sen msg) hlt
  refine ⟨_, st1 _ (fun acts => ?_), hrun, hended, hWU, hsame.weaken (fun y hy hlt' => ?_) (Nat.le_refl _) (Nat.le_refl _), _, hU, rfl, hfound⟩
  · rw [doInvoke_state]
    exact st2 _ hwalk
  · rcases List.mem_append.mp hy with h1 | h1
    · exact h1
    · exfalso
      have hb : y.base = a := by
        simp only [List.mem_cons, List.not_mem_nil, or_false] at h1
        rcases h1 with rfl | rfl | rfl | rfl | rfl <;> rfl
      rw [hb] at hlt'
      exact Nat.not_lt.mpr hnew hlt'
end PBT
section PBU
variable {p : Program} {l : Launch} {e : Env} {R : Room} {s : State} {m : MethodId} {args : Array Value} {below : List Frame} {meth : Method} {c : Code} {H : Heap} {locs : List Loc} {cells slots : Nat} {Q : State → Prop}
variable {mc ms : Nat} {free : Addr → Prop} {A0 A1 : Nat → Prop} {H0 : Heap} {a : Array Value} {ls : Array Slot} {st0 rest : List Value}
variable {Qc : Array Value → State → Outcome → State → Prop} {XC : String → State → State → Prop}
set_option maxHeartbeats 4000000 in
theorem pb_throwS {cc : ByteArray} {pc : Nat} (hexec : p.tables.exec = Jvm.exec) (hb : c.code = cc) (hl : l.stackTraces = false) {text : String} {ik is mc ms sa : Nat} {A : Nat → Prop}
    (hown : s.vm.findClass RX11 = some m.cls)
    (hk : (Cond.classLink RX11 ik pbX).before args s = true) (hini : (Cond.initialized pbX).before args s = true) (hstr : vk_R RX11 is text sa s) (hat : ∀ w ∈ (atY.filter vx_no), w.before args s = true)
    (hgood : ∀ w ∈ Cond.classLink RX11 ik pbX :: Cond.initialized pbX :: (atY.filter vx_no), vx_ot w = true)
    (hU : vx_Zq Bundle.tN "UNASSIGNED_STACK" Bundle.steD A s s.heap) (hN : vx_Zq Bundle.tN "SUPPRESSED_SENTINEL" Bundle.listD A s s.heap) (hS : va_S A s.heap H locs) (hsize : ls.size = c.maxLocals)
    (d0 : decode cc pc = .ok (.new ik, 3)) (d3 : decode cc (pc + 3) = .ok (.dup, 1)) (d4 : decode cc (pc + 4) = .ok (.ldc is, 2)) (d6 : decode cc (pc + 6) = .ok (.invokespecial 256, 3)) (d9 : decode cc (pc + 9) = .ok (.athrow, 1))
    (hout : ∀ x ∈ c.exceptionTable.toList, covers x (pc + 9) = false)
    (hRframes : 2 + 3 < R.frames) (hRlocals : (rest.map fun v => v.category).sum + (13 * (2 + 1) + 43) ≤ R.locals) (hRcells : cells + 1 ≤ R.cells) (hRslots : slots + 6 ≤ R.slots) (hlocks : meth.locks = false)
    (hx : ∀ t : State, s.vm.Alike t.vm → H.size ≤ t.heap.size → (∀ q : Nat, q < H.size → t.heap[q]? = H[q]?) → XC pbX s t)
    (hf : ∀ z ∈ locs, free z.base) (hc : cells + 1 ≤ mc) (hs : slots + 6 ≤ ms) :
    W p l e R s m args below meth c H locs cells slots (vx_MQ below Qc XC args s mc ms free) (F0 m pc ls rest) := by
  intro T hT X
  have htr : e.platform.stackTraces = false := (show e.platform.stackTraces = l.stackTraces by rw [X.admits.platform]).trans hl
  have Y := vx_rebase X (R' := { frames := R.frames, locals := R.locals, cells := 1, slots := 6 }) (Nat.le_refl _) (Nat.le_refl _) hRcells hRslots
  obtain ⟨s', hA⟩ : ∃ z, z = (T.setVm s.vm).setFrames (.invoking m args :: below) := ⟨_, rfl⟩
  rw [← hA] at Y
  have hvm : s'.vm = s.vm := by rw [hA]; rfl
  have hhp : s'.heap = H := by rw [hA]; exact hT
  have hW0 : s.WarmedH s'.vm := by rw [hvm]; exact State.WarmedH.refl s
  have hat' : ∀ w ∈ (atY.filter vx_no), w.before args s' = true := fun w hw => vx_ot_at hW0 hvm.symm (hgood w (List.mem_cons_of_mem _ (List.mem_cons_of_mem _ hw))) (hat w hw)
  have hk' : (Cond.classLink RX11 ik pbX).before args s' = true := vx_ot_at hW0 hvm.symm (hgood _ List.mem_cons_self) hk
  have hini' : (Cond.initialized pbX).before args s' = true := vx_ot_at hW0 hvm.symm (hgood _ (List.mem_cons_of_mem _ List.mem_cons_self)) hini
  have hU' : vx_Zq Bundle.tN "UNASSIGNED_STACK" Bundle.steD A s' s'.heap := by rw [hhp]; exact vx_Zq.moved hW0.alike (hU.kept hS.2.1)
  have hN' : vx_Zq Bundle.tN "SUPPRESSED_SENTINEL" Bundle.listD A s' s'.heap := by rw [hhp]; exact vx_Zq.moved hW0.alike (hN.kept hS.2.1)
  have h : ∀ w ∈ atY, w.before args s' = true := vx_own hat' (vx_isRefq hU'.1) (vx_isRefq hN'.1) hU'.2.word hN'.2.word
  have hown' : s'.vm.findClass RX11 = some m.cls := by rw [hvm]; exact hown
  have hins : (Cond.instantiable pbX 6).before args s' = true := h _ (List.mem_append_right _ (by simp))
  obtain ⟨vm₁, cX, kX, hfX, hkX, -, -, X₁, st1⟩ := Y.newCold hexec (own := RX11) (C := pbX) (index := ik) (n := 6) hown' hk' hins hini'
    (g := F0 m pc ls rest) rfl (by rw [hb]; exact d0) (Nat.le_refl _) (Nat.le_refl _)
  generalize hT1 : (T.setVm vm₁).pushCell { cls := cX, slots := kX.instanceTypes.map defaultValue, vm := .none } = T1 at X₁ st1
  have hcat : (Value.ref T.heap.size).category = 1 := rfl
  have hcellA : T1.heap[T.heap.size]? = some (freshCell cX kX) := by rw [← hT1]; exact State.heap_pushCell_size _ _
  have d3' : decode c.code (pc + 3) = .ok (.dup, 1) := by rw [hb]; exact d3
  have d4' : decode c.code (pc + 4) = .ok (.ldc is, 2) := by rw [hb]; exact d4
  have hstr' : vk_R RX11 is text sa s' := vk_R.warm hW0 hstr
  obtain ⟨U, hsteps, hrun, hend, hW, hsame, ce, hce, hO⟩ := pb_ctor X₁ hexec htr hown' h (fun x hx => nomatch hx) hfX hkX hcellA (by rw [hhp, hT]; exact Nat.le_refl _) (msg := .ref sa) rfl
    (g := { method := m, pc := pc + 6, locals := ls, stack := .ref sa :: .ref T.heap.size :: .ref T.heap.size :: rest, locked := none }) rfl hsize rfl rfl (rest := rest) rfl
    (by rw [hb]; exact d6) (by rw [hb]; exact d9) hout hRframes (by simp only [List.map_cons, List.sum_cons, hcat]; omega) hlocks
  obtain ⟨f1, f2⟩ := vx_frame hsame
  rw [hhp] at f1 f2
  have hWs : s.WarmedH U.vm := State.WarmedH.trans hW0 hW
  have hcl : s.vm.findClass pbX = some ce.cls := by
    have h9 := hO.2
    rw [hvm] at h9
    exact h9
  have hall : s.sameButNew ({ U with vm := s.vm } : State) locs mc ms := by
    subst hA
    obtain ⟨e1, e2⟩ := hsame
    rw [State.setFrames_setFrames] at e1
    have h2 : (T.setVm s.vm).sameButNew ({ U with vm := s.vm } : State) [] (0 + 1) (0 + 6) := ⟨e1, e2⟩
    have h3 := X.same.trans h2
    rw [List.append_nil] at h3
    exact h3.mono hc hs
  refine ⟨U, ?_, .threw T.heap.size, hrun, hend, Or.inr ⟨T.heap.size, rfl, pbX, ce, locs, hx U hWs.alike f1 (fun q hq => f2 q hq (fun z hz => nomatch hz)), hce, hO.1, hcl, hWs, hall, hf⟩⟩
  refine st1 _ ?_
  show Steps p.tables e below (T1.setTop { method := m, pc := pc + 3, locals := ls, stack := .ref T.heap.size :: rest, locked := none }) _
  jvm_step X₁.here [X₁.here.top, hexec, d3', Value.category]
  exact X₁.ldcString hexec (own := RX11) (text := text) (index := is) (a := sa) hown' hstr'.1 hstr'.2
    (g := { method := m, pc := pc + 4, locals := ls, stack := .ref T.heap.size :: .ref T.heap.size :: rest, locked := none }) rfl d4' _ hsteps
set_option maxHeartbeats 4000000 in
theorem pb_throwSW {cc : ByteArray} {pc : Nat} (hexec : p.tables.exec = Jvm.exec) (hb : c.code = cc) (hl : l.stackTraces = false) {text : String} {ik is mc ms sa : Nat} {A : Nat → Prop}
    (hown : s.vm.findClass RX11 = some m.cls)
    (hk : (Cond.classLink RX11 ik pbX).before args s = true) (hini : (Cond.initialized pbX).before args s = true) (hstr : vk_R RX11 is text sa s) (hat : ∀ w ∈ (atY.filter vx_no), w.before args s = true)
    (hgood : ∀ w ∈ Cond.classLink RX11 ik pbX :: Cond.initialized pbX :: (atY.filter vx_no), vx_ot w = true)
    (hU : vx_Zq Bundle.tN "UNASSIGNED_STACK" Bundle.steD A s s.heap) (hN : vx_Zq Bundle.tN "SUPPRESSED_SENTINEL" Bundle.listD A s s.heap) (hS : va_S A s.heap H locs) (hsize : ls.size = c.maxLocals)
    (d0 : decode cc pc = .ok (.new ik, 3)) (d3 : decode cc (pc + 3) = .ok (.dup, 1)) (d4 : decode cc (pc + 4) = .ok (.ldc_w is, 3)) (d7 : decode cc (pc + 7) = .ok (.invokespecial 256, 3)) (d10 : decode cc (pc + 10) = .ok (.athrow, 1))
    (hout : ∀ x ∈ c.exceptionTable.toList, covers x (pc + 10) = false)
    (hRframes : 2 + 3 < R.frames) (hRlocals : (rest.map fun v => v.category).sum + (13 * (2 + 1) + 43) ≤ R.locals) (hRcells : cells + 1 ≤ R.cells) (hRslots : slots + 6 ≤ R.slots) (hlocks : meth.locks = false)
    (hx : ∀ t : State, s.vm.Alike t.vm → H.size ≤ t.heap.size → (∀ q : Nat, q < H.size → t.heap[q]? = H[q]?) → XC pbX s t)
    (hf : ∀ z ∈ locs, free z.base) (hc : cells + 1 ≤ mc) (hs : slots + 6 ≤ ms) :
    W p l e R s m args below meth c H locs cells slots (vx_MQ below Qc XC args s mc ms free) (F0 m pc ls rest) := by
  intro T hT X
  have htr : e.platform.stackTraces = false := (show e.platform.stackTraces = l.stackTraces by rw [X.admits.platform]).trans hl
  have Y := vx_rebase X (R' := { frames := R.frames, locals := R.locals, cells := 1, slots := 6 }) (Nat.le_refl _) (Nat.le_refl _) hRcells hRslots
  obtain ⟨s', hA⟩ : ∃ z, z = (T.setVm s.vm).setFrames (.invoking m args :: below) := ⟨_, rfl⟩
  rw [← hA] at Y
  have hvm : s'.vm = s.vm := by rw [hA]; rfl
  have hhp : s'.heap = H := by rw [hA]; exact hT
  have hW0 : s.WarmedH s'.vm := by rw [hvm]; exact State.WarmedH.refl s
  have hat' : ∀ w ∈ (atY.filter vx_no), w.before args s' = true := fun w hw => vx_ot_at hW0 hvm.symm (hgood w (List.mem_cons_of_mem _ (List.mem_cons_of_mem _ hw))) (hat w hw)
  have hk' : (Cond.classLink RX11 ik pbX).before args s' = true := vx_ot_at hW0 hvm.symm (hgood _ List.mem_cons_self) hk
  have hini' : (Cond.initialized pbX).before args s' = true := vx_ot_at hW0 hvm.symm (hgood _ (List.mem_cons_of_mem _ List.mem_cons_self)) hini
  have hU' : vx_Zq Bundle.tN "UNASSIGNED_STACK" Bundle.steD A s' s'.heap := by rw [hhp]; exact vx_Zq.moved hW0.alike (hU.kept hS.2.1)
  have hN' : vx_Zq Bundle.tN "SUPPRESSED_SENTINEL" Bundle.listD A s' s'.heap := by rw [hhp]; exact vx_Zq.moved hW0.alike (hN.kept hS.2.1)
  have h : ∀ w ∈ atY, w.before args s' = true := vx_own hat' (vx_isRefq hU'.1) (vx_isRefq hN'.1) hU'.2.word hN'.2.word
  have hown' : s'.vm.findClass RX11 = some m.cls := by rw [hvm]; exact hown
  have hins : (Cond.instantiable pbX 6).before args s' = true := h _ (List.mem_append_right _ (by simp))
  obtain ⟨vm₁, cX, kX, hfX, hkX, -, -, X₁, st1⟩ := Y.newCold hexec (own := RX11) (C := pbX) (index := ik) (n := 6) hown' hk' hins hini'
    (g := F0 m pc ls rest) rfl (by rw [hb]; exact d0) (Nat.le_refl _) (Nat.le_refl _)
  generalize hT1 : (T.setVm vm₁).pushCell { cls := cX, slots := kX.instanceTypes.map defaultValue, vm := .none } = T1 at X₁ st1
  have hcat : (Value.ref T.heap.size).category = 1 := rfl
  have hcellA : T1.heap[T.heap.size]? = some (freshCell cX kX) := by rw [← hT1]; exact State.heap_pushCell_size _ _
  have d3' : decode c.code (pc + 3) = .ok (.dup, 1) := by rw [hb]; exact d3
  have d4' : decode c.code (pc + 4) = .ok (.ldc_w is, 3) := by rw [hb]; exact d4
  have hstr' : vk_R RX11 is text sa s' := vk_R.warm hW0 hstr
  obtain ⟨U, hsteps, hrun, hend, hW, hsame, ce, hce, hO⟩ := pb_ctor X₁ hexec htr hown' h (fun x hx => nomatch hx) hfX hkX hcellA (by rw [hhp, hT]; exact Nat.le_refl _) (msg := .ref sa) rfl
    (g := { method := m, pc := pc + 7, locals := ls, stack := .ref sa :: .ref T.heap.size :: .ref T.heap.size :: rest, locked := none }) rfl hsize rfl rfl (rest := rest) rfl
    (by rw [hb]; exact d7) (by rw [hb]; exact d10) hout hRframes (by simp only [List.map_cons, List.sum_cons, hcat]; omega) hlocks
  obtain ⟨f1, f2⟩ := vx_frame hsame
  rw [hhp] at f1 f2
  have hWs : s.WarmedH U.vm := State.WarmedH.trans hW0 hW
  have hcl : s.vm.findClass pbX = some ce.cls := by
    have h9 := hO.2
    rw [hvm] at h9
    exact h9
  have hall : s.sameButNew ({ U with vm := s.vm } : State) locs mc ms := by
    subst hA
    obtain ⟨e1, e2⟩ := hsame
    rw [State.setFrames_setFrames] at e1
    have h2 : (T.setVm s.vm).sameButNew ({ U with vm := s.vm } : State) [] (0 + 1) (0 + 6) := ⟨e1, e2⟩
    have h3 := X.same.trans h2
    rw [List.append_nil] at h3
    exact h3.mono hc hs
  refine ⟨U, ?_, .threw T.heap.size, hrun, hend, Or.inr ⟨T.heap.size, rfl, pbX, ce, locs, hx U hWs.alike f1 (fun q hq => f2 q hq (fun z hz => nomatch hz)), hce, hO.1, hcl, hWs, hall, hf⟩⟩
  refine st1 _ ?_
  show Steps p.tables e below (T1.setTop { method := m, pc := pc + 3, locals := ls, stack := .ref T.heap.size :: rest, locked := none }) _
  jvm_step X₁.here [X₁.here.top, hexec, d3', Value.category]
  exact X₁.ldcStringW hexec (own := RX11) (text := text) (index := is) (a := sa) hown' hstr'.1 hstr'.2
    (g := { method := m, pc := pc + 4, locals := ls, stack := .ref T.heap.size :: .ref T.heap.size :: rest, locked := none }) rfl d4' _ hsteps
end PBU
def wsY : List Cond := wsL_law ++ (atY.filter vx_no).filter goodWord
theorem wy_good : ∀ w ∈ wsY, goodWord w = true := List.forall_mem_append.mpr ⟨wl_good, fun _ h => (List.mem_filter.mp h).2⟩
theorem wy_g {w : Cond} (h : w ∈ wsY) : w ∈ wsY ∧ ((w.onTables && w.keeps) = true ∨ ∃ ty, w = .arrayClass ty) := ⟨h, good_of_word (wy_good w h)⟩
theorem gy_V {own C : String} {idx : Nat} {y : MethodName} {cd : ByteArray} {mx : Nat} {rt : Option FieldType} (h1 : Cond.methodLink own idx y ∈ wsL_law) (h2 : Cond.instanceMethod y ∈ wsL_law) (h3 : Cond.selects C y y ∈ wsL_law) (h4 : Cond.initialized C ∈ wsL_law) (h5 : Cond.code y cd mx rt ∈ wsL_law) : GoodIn wsY (wsV own idx C y (Cond.code y cd mx rt :: wsY)) := by
  intro w hw
  unfold wsV at hw
  rcases List.mem_append.mp hw with h | h
  · simp only [List.mem_cons, List.not_mem_nil, or_false] at h
    rcases h with rfl | rfl | rfl | rfl
    · exact wy_g (List.mem_append_left _ h1)
    · exact wy_g (List.mem_append_left _ h2)
    · exact wy_g (List.mem_append_left _ h3)
    · exact wy_g (List.mem_append_left _ h4)
  · rcases List.mem_cons.mp h with rfl | h
    · exact wy_g (List.mem_append_left _ h5)
    · exact wy_g h
def tsw (U : State) : Prop := va_Nw (.castable "java/util/NoSuchElementException" "java/util/NoSuchElementException") U ∧ va_Nw (.declares (Bundle.initS "java/lang/RuntimeException")) U ∧ va_Nw (.declares (Bundle.initS "java/lang/Exception")) U ∧ va_Nw (.declares (Bundle.initS Bundle.tN)) U
theorem tsw_same {u U : State} (h : u.vm = U.vm) (q : tsw u) : tsw U := ⟨va_Nw.same rfl h q.1, va_Nw.same rfl h q.2.1, va_Nw.same rfl h q.2.2.1, va_Nw.same rfl h q.2.2.2⟩
theorem tsw_warm {s U : State} (hW : s.WarmedH U.vm) (q : tsw s) : tsw U := ⟨va_Nw.warmC hW q.1, va_Nw.warmD hW q.2.1, va_Nw.warmD hW q.2.2.1, va_Nw.warmD hW q.2.2.2⟩
def tsr (A : Nat → Prop) (U : State) (H : Heap) : Prop := tsw U ∧ (∃ a, vk_R RX11 254 "no such bundle" a U) ∧ (∃ a, vk_R RX11 273 "no such boy" a U) ∧ vx_Zq Bundle.tN "UNASSIGNED_STACK" Bundle.steD A U H ∧ vx_Zq Bundle.tN "SUPPRESSED_SENTINEL" Bundle.listD A U H
theorem tsr_same {A : Nat → Prop} {u U : State} {H : Heap} (h : u.vm = U.vm) (q : tsr A u H) : tsr A U H := ⟨tsw_same h q.1, q.2.1.imp fun _ z => z.same h.symm, q.2.2.1.imp fun _ z => z.same h.symm, q.2.2.2.1.moved (h ▸ Vm.Alike.refl u.vm), q.2.2.2.2.moved (h ▸ Vm.Alike.refl u.vm)⟩
theorem tsr_go {A B : Nat → Prop} {s U : State} {H H1 : Heap} (hW : s.WarmedH U.vm) (hk : ∀ a : Nat, a < H.size → ¬ A a → H1[a]? = H[a]?) (hAB : ∀ q, B q → A q) (q : tsr A s H) : tsr B U H1 := ⟨tsw_warm hW q.1, q.2.1.imp fun _ z => z.warm hW, q.2.2.1.imp fun _ z => z.warm hW, ((q.2.2.2.1.kept hk).narrow hAB).moved hW.alike, ((q.2.2.2.2.kept hk).narrow hAB).moved hW.alike⟩
theorem tsr_words {args : Array Value} {s : State} (h1 : ∀ w ∈ (atY.filter vx_no).filter goodWord, w.before args s = true) (h : tsw s) : ∀ w ∈ atY.filter vx_no, w.before args s = true := vx_hat (B := [.castable "java/util/NoSuchElementException" "java/util/NoSuchElementException", .declares (Bundle.initS "java/lang/RuntimeException"), .declares (Bundle.initS "java/lang/Exception"), .declares (Bundle.initS Bundle.tN)]) h1 (by decide +kernel) (vx_c (va_Nw.use rfl h.1) (vx_c (va_Nw.use rfl h.2.1) (vx_c (va_Nw.use rfl h.2.2.1) (vx_c (va_Nw.use rfl h.2.2.2) vx_n))))
theorem tsr_good : ∀ w ∈ Cond.classLink RX11 252 "java/util/NoSuchElementException" :: Cond.initialized "java/util/NoSuchElementException" :: atY.filter vx_no, vx_ot w = true := by decide +kernel
set_option maxHeartbeats 4000000 in
set_option maxRecDepth 100000 in
theorem cy_X11_of (l : Launch) (hst : l.stackTraces = false) (dC : Nat → ClassId) (dI : Nat → Nat → Nat) (h0 : Nat) (p0 : Int32) (p1 : Int32) (h1 : Nat) (h2 : Nat) (h3 : Nat) (h4 : Nat) (h5 : Nat) (h6 : Nat) (h7 : Nat) (h8 : Nat) (h9 : Nat) (h10 : Nat) (h11 : Nat) (h12 : Nat) (h13 : Nat) (h14 : Nat) (h15 : Nat) (h16 : Nat) (t0 : Nat) (sz : Nat) : vx_Met l yX11_of (Cond.code yX11_of cX11_of 4 (some .int) :: wsY) ({ frames := 6, cells := 1, slots := 6, locals := 82 }) (va_Pc [.ref h0, .int p0, .int p1] (fun U => U.heap.size = sz ∧ va_P (dC, dI) vwCl [(h0, .inr (12, [.ref h1, .ref h2, .ref h3, .ref h4, .ref h5, .ref h6, .ref h7, .ref h8, .ref h9, .ref h10, .ref h11, .ref h12, .int 0, .int 0, .int (-1), .int (-1), .int (-1), .int (-1)])), (h2, .inr (6, [.ref h3, .ref h13, .ref h14, .ref h15, .ref h16, .int 0, .int 0, .int 0])), (h14, .inr (0, [.int 0, .ref t0, .int 0]))] U.heap ∧ va_K (dC, dI) vwCl [] U ∧ va_D (fun _ => True) [(h0, .inr (12, [.ref h1, .ref h2, .ref h3, .ref h4, .ref h5, .ref h6, .ref h7, .ref h8, .ref h9, .ref h10, .ref h11, .ref h12, .int 0, .int 0, .int (-1), .int (-1), .int (-1), .int (-1)])), (h2, .inr (6, [.ref h3, .ref h13, .ref h14, .ref h15, .ref h16, .int 0, .int 0, .int 0])), (h14, .inr (0, [.int 0, .ref t0, .int 0]))] ∧ tsr (va_A [(h0, .inr (12, [.ref h1, .ref h2, .ref h3, .ref h4, .ref h5, .ref h6, .ref h7, .ref h8, .ref h9, .ref h10, .ref h11, .ref h12, .int 0, .int 0, .int (-1), .int (-1), .int (-1), .int (-1)])), (h2, .inr (6, [.ref h3, .ref h13, .ref h14, .ref h15, .ref h16, .int 0, .int 0, .int 0])), (h14, .inr (0, [.int 0, .ref t0, .int 0]))] sz) U U.heap)) (va_Qi (fun (_ : Int32) (_ : Unit) => False) (fun _ _ => True) (va_A [(h0, .inr (12, [.ref h1, .ref h2, .ref h3, .ref h4, .ref h5, .ref h6, .ref h7, .ref h8, .ref h9, .ref h10, .ref h11, .ref h12, .int 0, .int 0, .int (-1), .int (-1), .int (-1), .int (-1)])), (h2, .inr (6, [.ref h3, .ref h13, .ref h14, .ref h15, .ref h16, .int 0, .int 0, .int 0])), (h14, .inr (0, [.int 0, .ref t0, .int 0]))] sz)) (vx_X (fun _ : Unit => True) (fun E _ _ => E = "java/util/NoSuchElementException") (va_A [(h0, .inr (12, [.ref h1, .ref h2, .ref h3, .ref h4, .ref h5, .ref h6, .ref h7, .ref h8, .ref h9, .ref h10, .ref h11, .ref h12, .int 0, .int 0, .int (-1), .int (-1), .int (-1), .int (-1)])), (h2, .inr (6, [.ref h3, .ref h13, .ref h14, .ref h15, .ref h16, .int 0, .int 0, .int 0])), (h14, .inr (0, [.int 0, .ref t0, .int 0]))] sz)) 1 6 (va_A [(h0, .inr (12, [.ref h1, .ref h2, .ref h3, .ref h4, .ref h5, .ref h6, .ref h7, .ref h8, .ref h9, .ref h10, .ref h11, .ref h12, .int 0, .int 0, .int (-1), .int (-1), .int (-1), .int (-1)])), (h2, .inr (6, [.ref h3, .ref h13, .ref h14, .ref h15, .ref h16, .int 0, .int 0, .int 0])), (h14, .inr (0, [.int 0, .ref t0, .int 0]))] sz) := by
  refine vx_ofW (cc := cX11_of) (maxL := 4) (ret := (some .int)) (by decide) rfl ?_
  intro p e s m args below meth c s₁ B hml hnt hv
  obtain ⟨rfl, hsz, hP, hK, hD0, hTh⟩ := hv
  have hx := B.exec
  have hb := B.bytes
  have hr := B.returns
  have hts := atoms_spec (ws := Cond.code yX11_of cX11_of 4 (some .int) :: wsY) B.pre
  have hwx : ∀ w ∈ wsY, w.before _ s = true := fun w h => hts w (List.mem_cons_of_mem _ h)
  have hws : ∀ w ∈ wsL_law, w.before _ s = true := fun w h => hwx w (List.mem_append_left _ h)
  have hown : s.vm.findClass RX11 = some m.cls := findClass_of_methodNamed B.named
  have hlocks := B.notSynchronized
  subst hsz
  have hD := hD0.self (sz := s.heap.size)
  generalize hAe : va_A [(h0, .inr (12, [.ref h1, .ref h2, .ref h3, .ref h4, .ref h5, .ref h6, .ref h7, .ref h8, .ref h9, .ref h10, .ref h11, .ref h12, .int 0, .int 0, .int (-1), .int (-1), .int (-1), .int (-1)])), (h2, .inr (6, [.ref h3, .ref h13, .ref h14, .ref h15, .ref h16, .int 0, .int 0, .int 0])), (h14, .inr (0, [.int 0, .ref t0, .int 0]))] s.heap.size = A at hD hTh ⊢
  have hS : va_S A s.heap s.heap [] := va_S.rf
  have hP : va_P (dC, dI) vwCl [(h0, .inr (12, [.ref h1, .ref h2, .ref h3, .ref h4, .ref h5, .ref h6, .ref h7, .ref h8, .ref h9, .ref h10, .ref h11, .ref h12, .int 0, .int 0, .int (-1), .int (-1), .int (-1), .int (-1)])), (h2, .inr (6, [.ref h3, .ref h13, .ref h14, .ref h15, .ref h16, .int 0, .int 0, .int 0])), (h14, .inr (0, [.int 0, .ref t0, .int 0]))] s.heap := hP
  have hl := lv_entry ([.ref h0, .int p0, .int p1]) (n := 4) (Nat.le_of_ble_eq_true rfl)
  rw [lg_entry_eq]
  generalize (lg_sl ([.ref h0, .int p0, .int p1]) ++ List.replicate (4 - (lg_sl ([.ref h0, .int p0, .int p1])).length) Slot.unset).toArray = ls at hl ⊢
  have hl : lv_has ls 4 [(0, .ref h0), (1, .int p0), (2, .int p1)] := hl
  refine lv_aload_n hx hb dX11_of_0 rfl (lv_at hl 0 rfl) ?_
  refine va_get (D := (dC, dI)) (ci := 12) (v := .ref h2) (C := RX11) (T := TX11) (N := 18) hx hb hws inlX11 hown hK hP 0 rfl rfl 1 (by decide) (hws _ m_1_20) (fun _ h9 => h9) rfl dX11_of_1 ?_
  refine lv_iload_n hx hb dX11_of_4 rfl (lv_at hl 1 rfl) ?_
  have hPc := hP.sub (ws' := [(h2, .inr (6, [.ref h3, .ref h13, .ref h14, .ref h15, .ref h16, .int 0, .int 0, .int 0])), (h14, .inr (0, [.int 0, .ref t0, .int 0]))]) [1, 2] rfl
  have hDc := hD.sub (ws' := [(h2, .inr (6, [.ref h3, .ref h13, .ref h14, .ref h15, .ref h16, .int 0, .int 0, .int 0])), (h14, .inr (0, [.int 0, .ref t0, .int 0]))]) [1, 2] (by decide) rfl
  have hKc := hK.sub (tys' := []) [] rfl
  refine vp_callSi (W.runV (As := [.int p0]) (rest := []) ⟨hx, hb, hml, hown, hws⟩ (c_X5_hasBundle_v1 l dC dI h2 p0 h3 h13 h14 h15 h16 t0 s.heap.size) (cwV 1 hws (gw_V m_37_11 m_37_12 m_37_13 m_1_19 m_37_14) rfl rfl rfl (by decide +kernel) ⟨Nat.le_of_ble_eq_true rfl, Nat.le_of_ble_eq_true rfl⟩) ⟨fun a U g mk q => by obtain ⟨q0, q1, qP, qK, qD⟩ := q; exact ⟨q0, q1, qP, va_K.moved (u := U) (U := U.calling g mk a) (Vm.Alike.refl U.vm) qK, qD⟩, va_recv hKc hPc (ci := 6) (q0 := 0) rfl rfl, fun U hU hW => ⟨rfl, by rw [hU], by rw [hU]; exact hPc, va_K.moved hW.alike hKc, hDc.weaken (fun _ _ _ _ => trivial)⟩⟩ rfl rfl hl.1 rfl (lv_room (Nat.le_of_ble_eq_true rfl)) dX11_of_5 ⟨Nat.le_of_ble_eq_true rfl, Nat.le_of_ble_eq_true rfl⟩) (fun r_1 hr_1 => ?_)
  rcases hr_1 with ⟨c_2, rfl⟩ | ⟨c_4, c_5, rfl⟩
  · refine lv_if_ne (tgt := 21) hx hb dX11_of_8 (by decide) (fun c_3 => absurd (by decide) c_3) (fun _ => ?_)
    exact pb_throwS (text := "no such bundle") (ik := 252) (is := 254) (A := A) hx hb hst hown (hws _ m_41_20) (hws _ m_41_21) hTh.2.1.choose_spec (tsr_words (fun w h => hwx w (List.mem_append_right _ h)) hTh.1) tsr_good hTh.2.2.2.1 hTh.2.2.2.2 hS (hl.1.trans hml.symm) dX11_of_11 dX11_of_14 dX11_of_15 dX11_of_17 dX11_of_20 (fun x h => (hnt x h).elim) (Nat.le_of_ble_eq_true rfl) (Nat.le_of_ble_eq_true rfl) (Nat.le_of_ble_eq_true rfl) (Nat.le_of_ble_eq_true rfl) hlocks (fun t _ hz hk => ⟨(), trivial, rfl, hz, fun q hq _ => hk q hq⟩) hS.2.2 (by decide) (by decide)
  · refine lv_if_ne (tgt := 21) hx hb dX11_of_8 (by decide) (fun c_6 => absurd (by decide) c_6) (fun _ => ?_)
    exact pb_throwS (text := "no such bundle") (ik := 252) (is := 254) (A := A) hx hb hst hown (hws _ m_41_20) (hws _ m_41_21) hTh.2.1.choose_spec (tsr_words (fun w h => hwx w (List.mem_append_right _ h)) hTh.1) tsr_good hTh.2.2.2.1 hTh.2.2.2.2 hS (hl.1.trans hml.symm) dX11_of_11 dX11_of_14 dX11_of_15 dX11_of_17 dX11_of_20 (fun x h => (hnt x h).elim) (Nat.le_of_ble_eq_true rfl) (Nat.le_of_ble_eq_true rfl) (Nat.le_of_ble_eq_true rfl) (Nat.le_of_ble_eq_true rfl) hlocks (fun t _ hz hk => ⟨(), trivial, rfl, hz, fun q hq _ => hk q hq⟩) hS.2.2 (by decide) (by decide)
set_option maxHeartbeats 4000000 in
set_option maxRecDepth 100000 in
theorem cm_L_of (l : Launch) (hst : l.stackTraces = false) (dC : Nat → ClassId) (dI : Nat → Nat → Nat) (h0 : Nat) (p0 : Int32) (p1 : Int32) (h1 : Nat) (h2 : Nat) (h3 : Nat) (h4 : Nat) (h5 : Nat) (h6 : Nat) (h7 : Nat) (h8 : Nat) (h9 : Nat) (h10 : Nat) (h11 : Nat) (h12 : Nat) (h13 : Nat) (h14 : Nat) (h15 : Nat) (h16 : Nat) (t0 : Nat) (hO : Nat) (sz : Nat) : Met l yL_of (Cond.codeWith yL_of cL_of 5 (some .int) [(0, 10, 13, 13)] :: wsY) ({ frames := 7, cells := 1, slots := 6, locals := 105 }) (va_Pc [.ref h0, .int p0, .int p1, .ref hO] (fun U => U.heap.size = sz ∧ va_P (dC, dI) vwCl [(h0, .inr (12, [.ref h1, .ref h2, .ref h3, .ref h4, .ref h5, .ref h6, .ref h7, .ref h8, .ref h9, .ref h10, .ref h11, .ref h12, .int 0, .int 0, .int (-1), .int (-1), .int (-1), .int (-1)])), (h2, .inr (6, [.ref h3, .ref h13, .ref h14, .ref h15, .ref h16, .int 0, .int 0, .int 0])), (h14, .inr (0, [.int 0, .ref t0, .int 0]))] U.heap ∧ va_K (dC, dI) vwCl [] U ∧ va_D (fun _ => True) [(h0, .inr (12, [.ref h1, .ref h2, .ref h3, .ref h4, .ref h5, .ref h6, .ref h7, .ref h8, .ref h9, .ref h10, .ref h11, .ref h12, .int 0, .int 0, .int (-1), .int (-1), .int (-1), .int (-1)])), (h2, .inr (6, [.ref h3, .ref h13, .ref h14, .ref h15, .ref h16, .int 0, .int 0, .int 0])), (h14, .inr (0, [.int 0, .ref t0, .int 0]))] ∧ tsr (va_A [(h0, .inr (12, [.ref h1, .ref h2, .ref h3, .ref h4, .ref h5, .ref h6, .ref h7, .ref h8, .ref h9, .ref h10, .ref h11, .ref h12, .int 0, .int 0, .int (-1), .int (-1), .int (-1), .int (-1)])), (h2, .inr (6, [.ref h3, .ref h13, .ref h14, .ref h15, .ref h16, .int 0, .int 0, .int 0])), (h14, .inr (0, [.int 0, .ref t0, .int 0]))] sz) U U.heap)) (va_Qi (fun (r : Int32) (_ : Unit) => r = 1) (fun _ _ => True) (va_A [(h0, .inr (12, [.ref h1, .ref h2, .ref h3, .ref h4, .ref h5, .ref h6, .ref h7, .ref h8, .ref h9, .ref h10, .ref h11, .ref h12, .int 0, .int 0, .int (-1), .int (-1), .int (-1), .int (-1)])), (h2, .inr (6, [.ref h3, .ref h13, .ref h14, .ref h15, .ref h16, .int 0, .int 0, .int 0])), (h14, .inr (0, [.int 0, .ref t0, .int 0]))] sz)) 1 6 (va_A [(h0, .inr (12, [.ref h1, .ref h2, .ref h3, .ref h4, .ref h5, .ref h6, .ref h7, .ref h8, .ref h9, .ref h10, .ref h11, .ref h12, .int 0, .int 0, .int (-1), .int (-1), .int (-1), .int (-1)])), (h2, .inr (6, [.ref h3, .ref h13, .ref h14, .ref h15, .ref h16, .int 0, .int 0, .int 0])), (h14, .inr (0, [.int 0, .ref t0, .int 0]))] sz) := by
  refine va_MetW (cc := cL_of) (maxL := 5) (ret := (some .int)) (hh := [(0, 10, 13, 13)]) (by decide) rfl ?_
  intro p e s m args below meth c s₁ B hml hv
  obtain ⟨rfl, hsz, hP, hK, hD0, hTh⟩ := hv
  have hx := B.exec
  have hb := B.bytes
  have hr := B.returns
  have hts := atoms_spec (ws := Cond.codeWith yL_of cL_of 5 (some .int) [(0, 10, 13, 13)] :: wsY) B.pre
  have hwx : ∀ w ∈ wsY, w.before _ s = true := fun w h => hts w (List.mem_cons_of_mem _ h)
  have hws : ∀ w ∈ wsL_law, w.before _ s = true := fun w h => hwx w (List.mem_append_left _ h)
  have htab := vx_table (x := yL_of) B (hts _ List.mem_cons_self)
  have hown : s.vm.findClass RL = some m.cls := findClass_of_methodNamed B.named
  have hlocks := B.notSynchronized
  subst hsz
  have hD := hD0.self (sz := s.heap.size)
  generalize hAe : va_A [(h0, .inr (12, [.ref h1, .ref h2, .ref h3, .ref h4, .ref h5, .ref h6, .ref h7, .ref h8, .ref h9, .ref h10, .ref h11, .ref h12, .int 0, .int 0, .int (-1), .int (-1), .int (-1), .int (-1)])), (h2, .inr (6, [.ref h3, .ref h13, .ref h14, .ref h15, .ref h16, .int 0, .int 0, .int 0])), (h14, .inr (0, [.int 0, .ref t0, .int 0]))] s.heap.size = A at hD hTh ⊢
  have hA : ∀ q : Nat, s.heap.size ≤ q → A q := fun q h => by rw [← hAe]; exact Or.inr h
  have hS : va_S A s.heap s.heap [] := va_S.rf
  have hP : va_P (dC, dI) vwCl [(h0, .inr (12, [.ref h1, .ref h2, .ref h3, .ref h4, .ref h5, .ref h6, .ref h7, .ref h8, .ref h9, .ref h10, .ref h11, .ref h12, .int 0, .int 0, .int (-1), .int (-1), .int (-1), .int (-1)])), (h2, .inr (6, [.ref h3, .ref h13, .ref h14, .ref h15, .ref h16, .int 0, .int 0, .int 0])), (h14, .inr (0, [.int 0, .ref t0, .int 0]))] s.heap := hP
  have hl := lv_entry ([.ref h0, .int p0, .int p1, .ref hO]) (n := 5) (Nat.le_of_ble_eq_true rfl)
  rw [lg_entry_eq]
  generalize (lg_sl ([.ref h0, .int p0, .int p1, .ref hO]) ++ List.replicate (5 - (lg_sl ([.ref h0, .int p0, .int p1, .ref hO])).length) Slot.unset).toArray = ls at hl ⊢
  have hl : lv_has ls 5 [(0, .ref h0), (1, .int p0), (2, .int p1), (3, .ref hO)] := hl
  refine lv_aload_n hx hb dL_of_0 rfl (lv_at hl 3 rfl) ?_
  refine lv_iconst (v := 0) hx hb dL_of_1 (by decide) ?_
  refine lv_aload_n hx hb dL_of_2 rfl (lv_at hl 0 rfl) ?_
  refine lv_iload_n hx hb dL_of_3 rfl (lv_at hl 1 rfl) ?_
  refine lv_iload_n hx hb dL_of_4 rfl (lv_at hl 2 rfl) ?_
  have hPc := hP.sub (ws' := [(h0, .inr (12, [.ref h1, .ref h2, .ref h3, .ref h4, .ref h5, .ref h6, .ref h7, .ref h8, .ref h9, .ref h10, .ref h11, .ref h12, .int 0, .int 0, .int (-1), .int (-1), .int (-1), .int (-1)])), (h2, .inr (6, [.ref h3, .ref h13, .ref h14, .ref h15, .ref h16, .int 0, .int 0, .int 0])), (h14, .inr (0, [.int 0, .ref t0, .int 0]))]) [0, 1, 2] rfl
  have hDc := hD.sub (ws' := [(h0, .inr (12, [.ref h1, .ref h2, .ref h3, .ref h4, .ref h5, .ref h6, .ref h7, .ref h8, .ref h9, .ref h10, .ref h11, .ref h12, .int 0, .int 0, .int (-1), .int (-1), .int (-1), .int (-1)])), (h2, .inr (6, [.ref h3, .ref h13, .ref h14, .ref h15, .ref h16, .int 0, .int 0, .int 0])), (h14, .inr (0, [.int 0, .ref t0, .int 0]))]) [0, 1, 2] (by decide) rfl
  have hKc := hK.sub (tys' := []) [] rfl
  have hFc := va_free (wc := [(h0, .inr (12, [.ref h1, .ref h2, .ref h3, .ref h4, .ref h5, .ref h6, .ref h7, .ref h8, .ref h9, .ref h10, .ref h11, .ref h12, .int 0, .int 0, .int (-1), .int (-1), .int (-1), .int (-1)])), (h2, .inr (6, [.ref h3, .ref h13, .ref h14, .ref h15, .ref h16, .int 0, .int 0, .int 0])), (h14, .inr (0, [.int 0, .ref t0, .int 0]))]) hD hS hA [0, 1, 2] rfl
  refine vx_calli (vx_runV (As := [.int p0, .int p1]) (rest := [.int 0, .ref hO]) ⟨hx, hb, hml, hown, hwx⟩ (cy_X11_of l hst dC dI h0 p0 p1 h1 h2 h3 h4 h5 h6 h7 h8 h9 h10 h11 h12 h13 h14 h15 h16 t0 s.heap.size) (cwV 2 hwx (gy_V m_41_16 m_41_17 m_41_18 m_1_2 m_41_19) rfl rfl rfl (by decide +kernel) ⟨Nat.le_of_ble_eq_true rfl, Nat.le_of_ble_eq_true rfl⟩) ⟨fun a U g mk q => by obtain ⟨q0, q1, qP, qK, qD, qT⟩ := q; exact ⟨q0, q1, qP, va_K.moved (u := U) (U := U.calling g mk a) (Vm.Alike.refl U.vm) qK, qD, tsr_same rfl qT⟩, va_recv hKc hPc (ci := 12) (q0 := 0) rfl rfl, fun U hU hW => ⟨rfl, by rw [hU], by rw [hU]; exact hPc, va_K.moved hW.alike hKc, hDc.weaken (fun _ _ _ _ => trivial), by rw [hU]; exact tsr_go hW (fun a _ _ => rfl) hFc hTh⟩⟩ rfl rfl hl.1 rfl (lv_room (Nat.le_of_ble_eq_true rfl)) dL_of_5 ⟨Nat.le_of_ble_eq_true rfl, Nat.le_of_ble_eq_true rfl⟩) hS (fun q _ h => hFc q h) hFc (fun q _ h => hFc q h) (fun E ce q9 u t H1 locs1 ht hvm hpx hBX hz hk hS1 hc1 hc2 hc3 => ?_) (fun r u t H1 locs1 ht hvm hpost _ _ _ _ => hpost.elim)
  obtain rfl := hBX
  refine vx_catch (own := RL) (name := "java/util/NoSuchElementException") hown [] _ [] (htab.trans rfl) (fun z h => nomatch h) rfl (by decide) (hws _ m_41_15) (va_Nw.use rfl hTh.1.1) hc1 hc2 hc3 ?_
  refine W.eq (g2 := F0 m 13 ls [.ref q9]) rfl ?_
  refine lv_astore (lv' := [(4, .ref q9), (0, .ref h0), (1, .int p0), (2, .int p1), (3, .ref hO)]) hx hb dL_of_13 hl (by decide) rfl (fun ls hl => ?_)
  refine lv_iconst (v := 1) hx hb dL_of_15 (by decide) ?_
  exact W.iret (v := 1) hx hb hr (fun t ht hW => ⟨⟨1, (), rfl, rfl, trivial⟩, hS1.F ht⟩) hS1.2.2 dL_of_16

set_option maxHeartbeats 4000000 in
set_option maxRecDepth 100000 in
theorem cy_X11_coin (l : Launch) (hst : l.stackTraces = false) (dC : Nat → ClassId) (dI : Nat → Nat → Nat) (h0 : Nat) (p0 : Int32) (h1 : Nat) (h2 : Nat) (h3 : Nat) (h4 : Nat) (h5 : Nat) (h6 : Nat) (h7 : Nat) (h8 : Nat) (h9 : Nat) (h10 : Nat) (h11 : Nat) (h12 : Nat) (h13 : Nat) (h14 : Nat) (h15 : Nat) (h16 : Nat) (t0 : Nat) (sz : Nat) : vx_Met l yX11_coin (Cond.code yX11_coin cX11_coin 2 (some .int) :: wsY) ({ frames := 6, cells := 1, slots := 6, locals := 82 }) (va_Pc [.ref h0, .int p0] (fun U => U.heap.size = sz ∧ va_P (dC, dI) vwCl [(h0, .inr (12, [.ref h1, .ref h2, .ref h3, .ref h4, .ref h5, .ref h6, .ref h7, .ref h8, .ref h9, .ref h10, .ref h11, .ref h12, .int 0, .int 0, .int (-1), .int (-1), .int (-1), .int (-1)])), (h2, .inr (6, [.ref h3, .ref h13, .ref h14, .ref h15, .ref h16, .int 0, .int 0, .int 0])), (h13, .inr (0, [.int 0, .ref t0, .int 0]))] U.heap ∧ va_K (dC, dI) vwCl [] U ∧ va_D (fun _ => True) [(h0, .inr (12, [.ref h1, .ref h2, .ref h3, .ref h4, .ref h5, .ref h6, .ref h7, .ref h8, .ref h9, .ref h10, .ref h11, .ref h12, .int 0, .int 0, .int (-1), .int (-1), .int (-1), .int (-1)])), (h2, .inr (6, [.ref h3, .ref h13, .ref h14, .ref h15, .ref h16, .int 0, .int 0, .int 0])), (h13, .inr (0, [.int 0, .ref t0, .int 0]))] ∧ tsr (va_A [(h0, .inr (12, [.ref h1, .ref h2, .ref h3, .ref h4, .ref h5, .ref h6, .ref h7, .ref h8, .ref h9, .ref h10, .ref h11, .ref h12, .int 0, .int 0, .int (-1), .int (-1), .int (-1), .int (-1)])), (h2, .inr (6, [.ref h3, .ref h13, .ref h14, .ref h15, .ref h16, .int 0, .int 0, .int 0])), (h13, .inr (0, [.int 0, .ref t0, .int 0]))] sz) U U.heap)) (va_Qi (fun (_ : Int32) (_ : Unit) => False) (fun _ _ => True) (va_A [(h0, .inr (12, [.ref h1, .ref h2, .ref h3, .ref h4, .ref h5, .ref h6, .ref h7, .ref h8, .ref h9, .ref h10, .ref h11, .ref h12, .int 0, .int 0, .int (-1), .int (-1), .int (-1), .int (-1)])), (h2, .inr (6, [.ref h3, .ref h13, .ref h14, .ref h15, .ref h16, .int 0, .int 0, .int 0])), (h13, .inr (0, [.int 0, .ref t0, .int 0]))] sz)) (vx_X (fun _ : Unit => True) (fun E _ _ => E = "java/util/NoSuchElementException") (va_A [(h0, .inr (12, [.ref h1, .ref h2, .ref h3, .ref h4, .ref h5, .ref h6, .ref h7, .ref h8, .ref h9, .ref h10, .ref h11, .ref h12, .int 0, .int 0, .int (-1), .int (-1), .int (-1), .int (-1)])), (h2, .inr (6, [.ref h3, .ref h13, .ref h14, .ref h15, .ref h16, .int 0, .int 0, .int 0])), (h13, .inr (0, [.int 0, .ref t0, .int 0]))] sz)) 1 6 (va_A [(h0, .inr (12, [.ref h1, .ref h2, .ref h3, .ref h4, .ref h5, .ref h6, .ref h7, .ref h8, .ref h9, .ref h10, .ref h11, .ref h12, .int 0, .int 0, .int (-1), .int (-1), .int (-1), .int (-1)])), (h2, .inr (6, [.ref h3, .ref h13, .ref h14, .ref h15, .ref h16, .int 0, .int 0, .int 0])), (h13, .inr (0, [.int 0, .ref t0, .int 0]))] sz) := by
  refine vx_ofW (cc := cX11_coin) (maxL := 2) (ret := (some .int)) (by decide) rfl ?_
  intro p e s m args below meth c s₁ B hml hnt hv
  obtain ⟨rfl, hsz, hP, hK, hD0, hTh⟩ := hv
  have hx := B.exec
  have hb := B.bytes
  have hr := B.returns
  have hts := atoms_spec (ws := Cond.code yX11_coin cX11_coin 2 (some .int) :: wsY) B.pre
  have hwx : ∀ w ∈ wsY, w.before _ s = true := fun w h => hts w (List.mem_cons_of_mem _ h)
  have hws : ∀ w ∈ wsL_law, w.before _ s = true := fun w h => hwx w (List.mem_append_left _ h)
  have hown : s.vm.findClass RX11 = some m.cls := findClass_of_methodNamed B.named
  have hlocks := B.notSynchronized
  subst hsz
  have hD := hD0.self (sz := s.heap.size)
  generalize hAe : va_A [(h0, .inr (12, [.ref h1, .ref h2, .ref h3, .ref h4, .ref h5, .ref h6, .ref h7, .ref h8, .ref h9, .ref h10, .ref h11, .ref h12, .int 0, .int 0, .int (-1), .int (-1), .int (-1), .int (-1)])), (h2, .inr (6, [.ref h3, .ref h13, .ref h14, .ref h15, .ref h16, .int 0, .int 0, .int 0])), (h13, .inr (0, [.int 0, .ref t0, .int 0]))] s.heap.size = A at hD hTh ⊢
  have hS : va_S A s.heap s.heap [] := va_S.rf
  have hP : va_P (dC, dI) vwCl [(h0, .inr (12, [.ref h1, .ref h2, .ref h3, .ref h4, .ref h5, .ref h6, .ref h7, .ref h8, .ref h9, .ref h10, .ref h11, .ref h12, .int 0, .int 0, .int (-1), .int (-1), .int (-1), .int (-1)])), (h2, .inr (6, [.ref h3, .ref h13, .ref h14, .ref h15, .ref h16, .int 0, .int 0, .int 0])), (h13, .inr (0, [.int 0, .ref t0, .int 0]))] s.heap := hP
  have hl := lv_entry ([.ref h0, .int p0]) (n := 2) (Nat.le_of_ble_eq_true rfl)
  rw [lg_entry_eq]
  generalize (lg_sl ([.ref h0, .int p0]) ++ List.replicate (2 - (lg_sl ([.ref h0, .int p0])).length) Slot.unset).toArray = ls at hl ⊢
  have hl : lv_has ls 2 [(0, .ref h0), (1, .int p0)] := hl
  refine lv_aload_n hx hb dX11_coin_0 rfl (lv_at hl 0 rfl) ?_
  refine va_get (D := (dC, dI)) (ci := 12) (v := .ref h2) (C := RX11) (T := TX11) (N := 18) hx hb hws inlX11 hown hK hP 0 rfl rfl 1 (by decide) (hws _ m_1_20) (fun _ h9 => h9) rfl dX11_coin_1 ?_
  refine lv_iload_n hx hb dX11_coin_4 rfl (lv_at hl 1 rfl) ?_
  have hPc := hP.sub (ws' := [(h2, .inr (6, [.ref h3, .ref h13, .ref h14, .ref h15, .ref h16, .int 0, .int 0, .int 0])), (h13, .inr (0, [.int 0, .ref t0, .int 0]))]) [1, 2] rfl
  have hDc := hD.sub (ws' := [(h2, .inr (6, [.ref h3, .ref h13, .ref h14, .ref h15, .ref h16, .int 0, .int 0, .int 0])), (h13, .inr (0, [.int 0, .ref t0, .int 0]))]) [1, 2] (by decide) rfl
  have hKc := hK.sub (tys' := []) [] rfl
  refine vp_callSi (W.runV (As := [.int p0]) (rest := []) ⟨hx, hb, hml, hown, hws⟩ (c_X5_hasBoy_v1 l dC dI h2 p0 h3 h13 h14 h15 h16 t0 s.heap.size) (cwV 1 hws (gw_V m_15_18 m_15_19 m_15_20 m_1_19 m_16_0) rfl rfl rfl (by decide +kernel) ⟨Nat.le_of_ble_eq_true rfl, Nat.le_of_ble_eq_true rfl⟩) ⟨fun a U g mk q => by obtain ⟨q0, q1, qP, qK, qD⟩ := q; exact ⟨q0, q1, qP, va_K.moved (u := U) (U := U.calling g mk a) (Vm.Alike.refl U.vm) qK, qD⟩, va_recv hKc hPc (ci := 6) (q0 := 0) rfl rfl, fun U hU hW => ⟨rfl, by rw [hU], by rw [hU]; exact hPc, va_K.moved hW.alike hKc, hDc.weaken (fun _ _ _ _ => trivial)⟩⟩ rfl rfl hl.1 rfl (lv_room (Nat.le_of_ble_eq_true rfl)) dX11_coin_5 ⟨Nat.le_of_ble_eq_true rfl, Nat.le_of_ble_eq_true rfl⟩) (fun r_1 hr_1 => ?_)
  rcases hr_1 with ⟨c_2, rfl⟩ | ⟨c_4, c_5, rfl⟩
  · refine lv_if_ne (tgt := 22) hx hb dX11_coin_8 (by decide) (fun c_3 => absurd (by decide) c_3) (fun _ => ?_)
    exact pb_throwSW (text := "no such boy") (ik := 252) (is := 273) (A := A) hx hb hst hown (hws _ m_41_20) (hws _ m_41_21) hTh.2.2.1.choose_spec (tsr_words (fun w h => hwx w (List.mem_append_right _ h)) hTh.1) tsr_good hTh.2.2.2.1 hTh.2.2.2.2 hS (hl.1.trans hml.symm) dX11_coin_11 dX11_coin_14 dX11_coin_15 dX11_coin_18 dX11_coin_21 (fun x h => (hnt x h).elim) (Nat.le_of_ble_eq_true rfl) (Nat.le_of_ble_eq_true rfl) (Nat.le_of_ble_eq_true rfl) (Nat.le_of_ble_eq_true rfl) hlocks (fun t _ hz hk => ⟨(), trivial, rfl, hz, fun q hq _ => hk q hq⟩) hS.2.2 (by decide) (by decide)
  · refine lv_if_ne (tgt := 22) hx hb dX11_coin_8 (by decide) (fun c_6 => absurd (by decide) c_6) (fun _ => ?_)
    exact pb_throwSW (text := "no such boy") (ik := 252) (is := 273) (A := A) hx hb hst hown (hws _ m_41_20) (hws _ m_41_21) hTh.2.2.1.choose_spec (tsr_words (fun w h => hwx w (List.mem_append_right _ h)) hTh.1) tsr_good hTh.2.2.2.1 hTh.2.2.2.2 hS (hl.1.trans hml.symm) dX11_coin_11 dX11_coin_14 dX11_coin_15 dX11_coin_18 dX11_coin_21 (fun x h => (hnt x h).elim) (Nat.le_of_ble_eq_true rfl) (Nat.le_of_ble_eq_true rfl) (Nat.le_of_ble_eq_true rfl) (Nat.le_of_ble_eq_true rfl) hlocks (fun t _ hz hk => ⟨(), trivial, rfl, hz, fun q hq _ => hk q hq⟩) hS.2.2 (by decide) (by decide)
set_option maxHeartbeats 4000000 in
set_option maxRecDepth 100000 in
theorem cm_L_coin (l : Launch) (hst : l.stackTraces = false) (dC : Nat → ClassId) (dI : Nat → Nat → Nat) (h0 : Nat) (p0 : Int32) (h1 : Nat) (h2 : Nat) (h3 : Nat) (h4 : Nat) (h5 : Nat) (h6 : Nat) (h7 : Nat) (h8 : Nat) (h9 : Nat) (h10 : Nat) (h11 : Nat) (h12 : Nat) (h13 : Nat) (h14 : Nat) (h15 : Nat) (h16 : Nat) (t0 : Nat) (hO : Nat) (sz : Nat) : Met l yL_coin (Cond.codeWith yL_coin cL_coin 4 (some .int) [(0, 9, 12, 13)] :: wsY) ({ frames := 7, cells := 1, slots := 6, locals := 103 }) (va_Pc [.ref h0, .int p0, .ref hO] (fun U => U.heap.size = sz ∧ va_P (dC, dI) vwCl [(h0, .inr (12, [.ref h1, .ref h2, .ref h3, .ref h4, .ref h5, .ref h6, .ref h7, .ref h8, .ref h9, .ref h10, .ref h11, .ref h12, .int 0, .int 0, .int (-1), .int (-1), .int (-1), .int (-1)])), (h2, .inr (6, [.ref h3, .ref h13, .ref h14, .ref h15, .ref h16, .int 0, .int 0, .int 0])), (h13, .inr (0, [.int 0, .ref t0, .int 0]))] U.heap ∧ va_K (dC, dI) vwCl [] U ∧ va_D (fun _ => True) [(h0, .inr (12, [.ref h1, .ref h2, .ref h3, .ref h4, .ref h5, .ref h6, .ref h7, .ref h8, .ref h9, .ref h10, .ref h11, .ref h12, .int 0, .int 0, .int (-1), .int (-1), .int (-1), .int (-1)])), (h2, .inr (6, [.ref h3, .ref h13, .ref h14, .ref h15, .ref h16, .int 0, .int 0, .int 0])), (h13, .inr (0, [.int 0, .ref t0, .int 0]))] ∧ tsr (va_A [(h0, .inr (12, [.ref h1, .ref h2, .ref h3, .ref h4, .ref h5, .ref h6, .ref h7, .ref h8, .ref h9, .ref h10, .ref h11, .ref h12, .int 0, .int 0, .int (-1), .int (-1), .int (-1), .int (-1)])), (h2, .inr (6, [.ref h3, .ref h13, .ref h14, .ref h15, .ref h16, .int 0, .int 0, .int 0])), (h13, .inr (0, [.int 0, .ref t0, .int 0]))] sz) U U.heap)) (va_Qi (fun (r : Int32) (_ : Unit) => r = 1) (fun _ _ => True) (va_A [(h0, .inr (12, [.ref h1, .ref h2, .ref h3, .ref h4, .ref h5, .ref h6, .ref h7, .ref h8, .ref h9, .ref h10, .ref h11, .ref h12, .int 0, .int 0, .int (-1), .int (-1), .int (-1), .int (-1)])), (h2, .inr (6, [.ref h3, .ref h13, .ref h14, .ref h15, .ref h16, .int 0, .int 0, .int 0])), (h13, .inr (0, [.int 0, .ref t0, .int 0]))] sz)) 1 6 (va_A [(h0, .inr (12, [.ref h1, .ref h2, .ref h3, .ref h4, .ref h5, .ref h6, .ref h7, .ref h8, .ref h9, .ref h10, .ref h11, .ref h12, .int 0, .int 0, .int (-1), .int (-1), .int (-1), .int (-1)])), (h2, .inr (6, [.ref h3, .ref h13, .ref h14, .ref h15, .ref h16, .int 0, .int 0, .int 0])), (h13, .inr (0, [.int 0, .ref t0, .int 0]))] sz) := by
  refine va_MetW (cc := cL_coin) (maxL := 4) (ret := (some .int)) (hh := [(0, 9, 12, 13)]) (by decide) rfl ?_
  intro p e s m args below meth c s₁ B hml hv
  obtain ⟨rfl, hsz, hP, hK, hD0, hTh⟩ := hv
  have hx := B.exec
  have hb := B.bytes
  have hr := B.returns
  have hts := atoms_spec (ws := Cond.codeWith yL_coin cL_coin 4 (some .int) [(0, 9, 12, 13)] :: wsY) B.pre
  have hwx : ∀ w ∈ wsY, w.before _ s = true := fun w h => hts w (List.mem_cons_of_mem _ h)
  have hws : ∀ w ∈ wsL_law, w.before _ s = true := fun w h => hwx w (List.mem_append_left _ h)
  have htab := vx_table (x := yL_coin) B (hts _ List.mem_cons_self)
  have hown : s.vm.findClass RL = some m.cls := findClass_of_methodNamed B.named
  have hlocks := B.notSynchronized
  subst hsz
  have hD := hD0.self (sz := s.heap.size)
  generalize hAe : va_A [(h0, .inr (12, [.ref h1, .ref h2, .ref h3, .ref h4, .ref h5, .ref h6, .ref h7, .ref h8, .ref h9, .ref h10, .ref h11, .ref h12, .int 0, .int 0, .int (-1), .int (-1), .int (-1), .int (-1)])), (h2, .inr (6, [.ref h3, .ref h13, .ref h14, .ref h15, .ref h16, .int 0, .int 0, .int 0])), (h13, .inr (0, [.int 0, .ref t0, .int 0]))] s.heap.size = A at hD hTh ⊢
  have hA : ∀ q : Nat, s.heap.size ≤ q → A q := fun q h => by rw [← hAe]; exact Or.inr h
  have hS : va_S A s.heap s.heap [] := va_S.rf
  have hP : va_P (dC, dI) vwCl [(h0, .inr (12, [.ref h1, .ref h2, .ref h3, .ref h4, .ref h5, .ref h6, .ref h7, .ref h8, .ref h9, .ref h10, .ref h11, .ref h12, .int 0, .int 0, .int (-1), .int (-1), .int (-1), .int (-1)])), (h2, .inr (6, [.ref h3, .ref h13, .ref h14, .ref h15, .ref h16, .int 0, .int 0, .int 0])), (h13, .inr (0, [.int 0, .ref t0, .int 0]))] s.heap := hP
  have hl := lv_entry ([.ref h0, .int p0, .ref hO]) (n := 4) (Nat.le_of_ble_eq_true rfl)
  rw [lg_entry_eq]
  generalize (lg_sl ([.ref h0, .int p0, .ref hO]) ++ List.replicate (4 - (lg_sl ([.ref h0, .int p0, .ref hO])).length) Slot.unset).toArray = ls at hl ⊢
  have hl : lv_has ls 4 [(0, .ref h0), (1, .int p0), (2, .ref hO)] := hl
  refine lv_aload_n hx hb dL_coin_0 rfl (lv_at hl 2 rfl) ?_
  refine lv_iconst (v := 0) hx hb dL_coin_1 (by decide) ?_
  refine lv_aload_n hx hb dL_coin_2 rfl (lv_at hl 0 rfl) ?_
  refine lv_iload_n hx hb dL_coin_3 rfl (lv_at hl 1 rfl) ?_
  have hPc := hP.sub (ws' := [(h0, .inr (12, [.ref h1, .ref h2, .ref h3, .ref h4, .ref h5, .ref h6, .ref h7, .ref h8, .ref h9, .ref h10, .ref h11, .ref h12, .int 0, .int 0, .int (-1), .int (-1), .int (-1), .int (-1)])), (h2, .inr (6, [.ref h3, .ref h13, .ref h14, .ref h15, .ref h16, .int 0, .int 0, .int 0])), (h13, .inr (0, [.int 0, .ref t0, .int 0]))]) [0, 1, 2] rfl
  have hDc := hD.sub (ws' := [(h0, .inr (12, [.ref h1, .ref h2, .ref h3, .ref h4, .ref h5, .ref h6, .ref h7, .ref h8, .ref h9, .ref h10, .ref h11, .ref h12, .int 0, .int 0, .int (-1), .int (-1), .int (-1), .int (-1)])), (h2, .inr (6, [.ref h3, .ref h13, .ref h14, .ref h15, .ref h16, .int 0, .int 0, .int 0])), (h13, .inr (0, [.int 0, .ref t0, .int 0]))]) [0, 1, 2] (by decide) rfl
  have hKc := hK.sub (tys' := []) [] rfl
  have hFc := va_free (wc := [(h0, .inr (12, [.ref h1, .ref h2, .ref h3, .ref h4, .ref h5, .ref h6, .ref h7, .ref h8, .ref h9, .ref h10, .ref h11, .ref h12, .int 0, .int 0, .int (-1), .int (-1), .int (-1), .int (-1)])), (h2, .inr (6, [.ref h3, .ref h13, .ref h14, .ref h15, .ref h16, .int 0, .int 0, .int 0])), (h13, .inr (0, [.int 0, .ref t0, .int 0]))]) hD hS hA [0, 1, 2] rfl
  refine vx_calli (vx_runV (As := [.int p0]) (rest := [.int 0, .ref hO]) ⟨hx, hb, hml, hown, hwx⟩ (cy_X11_coin l hst dC dI h0 p0 h1 h2 h3 h4 h5 h6 h7 h8 h9 h10 h11 h12 h13 h14 h15 h16 t0 s.heap.size) (cwV 1 hwx (gy_V m_42_17 m_42_18 m_42_19 m_1_2 m_42_20) rfl rfl rfl (by decide +kernel) ⟨Nat.le_of_ble_eq_true rfl, Nat.le_of_ble_eq_true rfl⟩) ⟨fun a U g mk q => by obtain ⟨q0, q1, qP, qK, qD, qT⟩ := q; exact ⟨q0, q1, qP, va_K.moved (u := U) (U := U.calling g mk a) (Vm.Alike.refl U.vm) qK, qD, tsr_same rfl qT⟩, va_recv hKc hPc (ci := 12) (q0 := 0) rfl rfl, fun U hU hW => ⟨rfl, by rw [hU], by rw [hU]; exact hPc, va_K.moved hW.alike hKc, hDc.weaken (fun _ _ _ _ => trivial), by rw [hU]; exact tsr_go hW (fun a _ _ => rfl) hFc hTh⟩⟩ rfl rfl hl.1 rfl (lv_room (Nat.le_of_ble_eq_true rfl)) dL_coin_4 ⟨Nat.le_of_ble_eq_true rfl, Nat.le_of_ble_eq_true rfl⟩) hS (fun q _ h => hFc q h) hFc (fun q _ h => hFc q h) (fun E ce q9 u t H1 locs1 ht hvm hpx hBX hz hk hS1 hc1 hc2 hc3 => ?_) (fun r u t H1 locs1 ht hvm hpost _ _ _ _ => hpost.elim)
  obtain rfl := hBX
  refine vx_catch (own := RL) (name := "java/util/NoSuchElementException") hown [] _ [] (htab.trans rfl) (fun z h => nomatch h) rfl (by decide) (hws _ m_41_15) (va_Nw.use rfl hTh.1.1) hc1 hc2 hc3 ?_
  refine W.eq (g2 := F0 m 12 ls [.ref q9]) rfl ?_
  refine lv_astore_n (lv' := [(3, .ref q9), (0, .ref h0), (1, .int p0), (2, .ref hO)]) hx hb dL_coin_12 rfl hl (by decide) rfl (fun ls hl => ?_)
  refine lv_iconst (v := 1) hx hb dL_coin_13 (by decide) ?_
  exact W.iret (v := 1) hx hb hr (fun t ht hW => ⟨⟨1, (), rfl, rfl, trivial⟩, hS1.F ht⟩) hS1.2.2 dL_coin_14
