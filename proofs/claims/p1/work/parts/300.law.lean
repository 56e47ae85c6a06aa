set_option maxRecDepth 20000 in
theorem wsL_law_x0 : ∀ w ∈ (atY.filter vx_no).filter goodWord, w ∈ lw_tbl := by decide +kernel
theorem wy_in : ∀ w ∈ wsY, w ∈ lw_tbl := List.forall_mem_append.mpr ⟨wl_in, wsL_law_x0⟩
set_option maxRecDepth 20000 in
theorem gl_L_of : GoodIn lw_tbl (va_wsS RL 103 yL_of (Cond.codeWith yL_of cL_of 5 (some .int) [(0, 10, 13, 13)] :: wsY)) := by
  intro w hw
  unfold va_wsS at hw
  rcases List.mem_append.mp hw with h | h
  · simp only [List.mem_cons, List.not_mem_nil, or_false] at h
    rcases h with rfl | rfl | rfl
    · exact ⟨wl_in _ m_41_12, good_of_word (by decide +kernel)⟩
    · exact ⟨wl_in _ m_41_13, good_of_word (by decide +kernel)⟩
    · exact ⟨tb_1 _ (List.mem_of_getElem? (i := 0) rfl), good_of_word (by decide +kernel)⟩
  · rcases List.mem_cons.mp h with rfl | h
    · exact ⟨tb_5 _ (List.mem_of_getElem? (i := 190) rfl), good_of_word (by decide +kernel)⟩
    · exact ⟨wy_in w h, good_of_word (wy_good w h)⟩
set_option maxRecDepth 20000 in
theorem gl_L_coin : GoodIn lw_tbl (va_wsS RL 112 yL_coin (Cond.codeWith yL_coin cL_coin 4 (some .int) [(0, 9, 12, 13)] :: wsY)) := by
  intro w hw
  unfold va_wsS at hw
  rcases List.mem_append.mp hw with h | h
  · simp only [List.mem_cons, List.not_mem_nil, or_false] at h
    rcases h with rfl | rfl | rfl
    · exact ⟨wl_in _ m_42_15, good_of_word (by decide +kernel)⟩
    · exact ⟨wl_in _ m_42_16, good_of_word (by decide +kernel)⟩
    · exact ⟨tb_1 _ (List.mem_of_getElem? (i := 0) rfl), good_of_word (by decide +kernel)⟩
  · rcases List.mem_cons.mp h with rfl | h
    · exact ⟨tb_6 _ (List.mem_of_getElem? (i := 24) rfl), good_of_word (by decide +kernel)⟩
    · exact ⟨wy_in w h, good_of_word (wy_good w h)⟩
set_option maxRecDepth 20000 in
theorem law_tsr {args : Array Value} {s : State} (hts : ∀ w ∈ lw_tbl, w.before args s = true) (hgv : (Jvm.Cond.and given_1 narrow_1).before args s = true) : tsr (fun q : Nat => s.heap.size ≤ q) s s.heap := by
  have hs := flat_of_before _ hgv
  have hA : ∀ a : Nat, a < s.heap.size → ¬ (fun q : Nat => s.heap.size ≤ q) a := fun a h q => absurd q (Nat.not_le.mpr h)
  refine ⟨⟨va_Nw.of rfl (hts _ (tb_5 _ (List.mem_of_getElem? (i := 198) rfl))), va_Nw.of rfl (hts _ (tb_5 _ (List.mem_of_getElem? (i := 200) rfl))), va_Nw.of rfl (hts _ (tb_5 _ (List.mem_of_getElem? (i := 202) rfl))), va_Nw.of rfl (hts _ (tb_5 _ (List.mem_of_getElem? (i := 204) rfl)))⟩, ?_, ?_, vx_Zqof (hts _ (tb_5 _ (List.mem_of_getElem? (i := 223) rfl))) (hts (Cond.initialized "java/lang/Throwable") (tb_1 _ (List.mem_of_getElem? (i := 26) rfl))) (hs _ (by decide +kernel)) hA, vx_Zqof (hts _ (tb_5 _ (List.mem_of_getElem? (i := 225) rfl))) (hts (Cond.initialized "java/lang/Throwable") (tb_1 _ (List.mem_of_getElem? (i := 26) rfl))) (hs _ (by decide +kernel)) hA⟩
  · obtain ⟨a, _, _, _, h, -⟩ := Cond.exactly_spec (hs (Cond.exactly (.string "PaperBoys" 254) "java/lang/String") (by decide +kernel))
    exact ⟨a, vk_R.of (hts _ (tb_5 _ (List.mem_of_getElem? (i := 235) rfl))) h⟩
  · obtain ⟨a, _, _, _, h, -⟩ := Cond.exactly_spec (hs (Cond.exactly (.string "PaperBoys" 273) "java/lang/String") (by decide +kernel))
    exact ⟨a, vk_R.of (hts _ (tb_6 _ (List.mem_of_getElem? (i := 29) rfl))) h⟩
def R_law : String := "PaperBoysLaw"
def lw_P (b : Addr) (xs : List Int32) (args : Array Value) (s : State) : Prop := args = #[.ref b] ∧ s.IntsAt b xs ∧ xs.length ≤ 6 ∧ (Jvm.Cond.and given_1 narrow_1).before args s = true
def lw_Q (_ : Array Value) (s : State) (o : Outcome) (t : State) : Prop := o = .returned (some (.int 1)) ∧ Framed s o t [] 600002 7302232
def lw_Z (below : List Frame) (a : Array Value) (s : State) : State → Prop := fun t => ∃ o, t.status = .running ∧ Ended t below o ∧ lw_Q a s o t
theorem lw_ret {p : Program} {l : Launch} {e : Env} {s : State} {m : MethodId} {below : List Frame} {meth : Method} {c : Code} {b : Nat} (hx : p.tables.exec = Jvm.exec) (hb : c.code = code) (hr : meth.sig.returnType = ret) (hlocks : meth.locks = false) {pc : Nat} {H : Heap} {ls : Array Slot} (hdg : decode code pc = .ok (.ireturn, 1)) : W p l e room_1 s m #[Value.ref b] below meth c H [] 600002 7302232 (lw_Z below #[Value.ref b] s) (F0 m pc ls [.int 1]) := by
  intro T hT X
  obtain ⟨fs, hret, hrun, hended, hW, hframe⟩ := X.leave (v := some (.int 1)) (hlocks := hlocks) (fun h => by rw [hr] at h; cases h)
  have hmeth' : T.vm.method? m = some meth := X.method'
  refine ⟨T.setFrames fs, ?_, .returned (some (.int 1)), hrun, hended, rfl, ⟨_, rfl⟩, hW, hframe⟩
  jvm_step X.here [X.here.top, hx, hb, hdg, hmeth', hr, ret, narrow_b1]
  (try refine ⟨rfl, ?_⟩); (try refine ⟨rfl, ?_⟩)
  first | (intro acts; rw [hret _ acts rfl rfl rfl]) | rw [hret _ _ rfl rfl rfl]
  exact Steps.refl _
def lw_At (p : Program) (s : State) (m : MethodId) (meth : Method) (c : Code) (b L : Nat) (xs : Nat → Int32) : Prop :=
  p.tables.exec = Jvm.exec ∧ c.code = code ∧ meth.sig.returnType = ret ∧ c.maxLocals = 7 ∧ s.vm.findClass R_law = some m.cls ∧ (∀ w ∈ lw_tbl, w.before #[Value.ref b] s = true) ∧ va_X b L xs s s.heap ∧ b < s.heap.size ∧ meth.locks = false ∧ (Jvm.Cond.and given_1 narrow_1).before #[Value.ref b] s = true
def lawW (qX : Nat) (qM : Nat) (qO : Nat) (kO : ClassId) (t0 : Nat) (auX : Nat → Nat) (cuX : Nat → ClassId) (guX : Nat → Nat → Int32) (zuX : Nat → Int32) (ruX : Nat → Nat → Nat) (auM : Nat → Nat) (cuM : Nat → ClassId) (guM : Nat → Nat → Int32) (zuM : Nat → Int32) (ruM : Nat → Nat → Nat) : va_W := [(qX, .inr (12, [.ref (auX 0), .ref (auX 1), .ref (auX 2), .ref (auX 3), .ref (auX 4), .ref (auX 5), .ref (auX 6), .ref (auX 7), .ref (auX 8), .ref (auX 9), .ref (auX 10), .ref (auX 11), .int 0, .int 0, .int (-1), .int (-1), .int (-1), .int (-1)])), ((auX 0), .inr (10, [.ref (auX 12), .int 0])), ((auX 12), .inl ((cuX 0), 420, .inl (fun _ => 0))), ((auX 1), .inr (6, [.ref (auX 2), .ref (auX 13), .ref (auX 14), .ref (auX 15), .ref (auX 16), .int 0, .int 0, .int 0])), ((auX 2), .inr (4, [.ref (auX 17), .ref (auX 18), .ref (auX 19), .ref (auX 20), .ref (auX 21), .ref (auX 22), .ref (auX 23)])), ((auX 17), .inl ((cuX 1), 400, .inl (fun _ => 0))), ((auX 18), .inl ((cuX 2), 4, .inr (.inr (.inr (.inr (fun i => if i < 4 then some ((ruX 0) i) else none)))))), (((ruX 0) 0), .inl ((cuX 1), 400, .inl (fun _ => 0))), (((ruX 0) 1), .inl ((cuX 1), 400, .inl (fun _ => 0))), (((ruX 0) 2), .inl ((cuX 1), 400, .inl (fun _ => 0))), (((ruX 0) 3), .inl ((cuX 1), 400, .inl (fun _ => 0))), ((auX 19), .inl ((cuX 3), 4, .inl (guX 0))), ((auX 20), .inl ((cuX 4), 6, .inl (guX 1))), ((auX 21), .inl ((cuX 5), 10, .inr (.inr (.inr (.inr (fun i => if i < 10 then some ((ruX 1) i) else none)))))), (((ruX 1) 0), .inl ((cuX 1), 4, .inl (fun _ => 0))), (((ruX 1) 1), .inl ((cuX 1), 4, .inl (fun _ => 0))), (((ruX 1) 2), .inl ((cuX 1), 4, .inl (fun _ => 0))), (((ruX 1) 3), .inl ((cuX 1), 4, .inl (fun _ => 0))), (((ruX 1) 4), .inl ((cuX 1), 4, .inl (fun _ => 0))), (((ruX 1) 5), .inl ((cuX 1), 4, .inl (fun _ => 0))), (((ruX 1) 6), .inl ((cuX 1), 4, .inl (fun _ => 0))), (((ruX 1) 7), .inl ((cuX 1), 4, .inl (fun _ => 0))), (((ruX 1) 8), .inl ((cuX 1), 4, .inl (fun _ => 0))), (((ruX 1) 9), .inl ((cuX 1), 4, .inl (fun _ => 0))), ((auX 22), .inl ((cuX 6), 10, .inl (guX 2))), ((auX 23), .inl ((cuX 7), 10, .inr (.inr (.inr (.inr (fun i => if i < 10 then some ((ruX 2) i) else none)))))), (((ruX 2) 0), .inl ((cuX 1), 10, .inl (guX 3))), (((ruX 2) 1), .inl ((cuX 1), 10, .inl (guX 4))), (((ruX 2) 2), .inl ((cuX 1), 10, .inl (guX 5))), (((ruX 2) 3), .inl ((cuX 1), 10, .inl (guX 6))), (((ruX 2) 4), .inl ((cuX 1), 10, .inl (guX 7))), (((ruX 2) 5), .inl ((cuX 1), 10, .inl (guX 8))), (((ruX 2) 6), .inl ((cuX 1), 10, .inl (guX 9))), (((ruX 2) 7), .inl ((cuX 1), 10, .inl (guX 10))), (((ruX 2) 8), .inl ((cuX 1), 10, .inl (guX 11))), (((ruX 2) 9), .inl ((cuX 1), 10, .inl (guX 12))), ((auX 13), .inr (0, [.int 0, .ref t0, .int 0])), ((auX 14), .inr (0, [.int 0, .ref t0, .int 0])), ((auX 15), .inr (0, [.int 0, .ref t0, .int 0])), ((auX 16), .inl ((cuX 8), 12, .inl (fun _ => 0))), ((auX 3), .inr (5, [.ref (auX 24), .ref (auX 25), .ref (auX 26), .int 0])), ((auX 24), .inl ((cuX 9), 60, .inl (fun _ => 0))), ((auX 25), .inl ((cuX 10), 60, .inl (fun _ => 0))), ((auX 26), .inl ((cuX 11), 60, .inl (fun _ => 0))), ((auX 4), .inr (0, [.int 0, .ref t0, .int 0])), ((auX 5), .inr (11, [.int (-1), .int 0, .int 0, .ref (auX 27), .ref (auX 28), .ref (auX 29), .ref (auX 30), .ref (auX 31)])), ((auX 27), .inl ((cuX 12), 16, .inl (fun _ => 0))), ((auX 28), .inl ((cuX 13), 16, .inl (fun _ => 0))), ((auX 29), .inl ((cuX 14), 16, .inl (fun _ => 0))), ((auX 30), .inl ((cuX 15), 16, .inl (fun _ => 0))), ((auX 31), .inl ((cuX 16), 100, .inl (fun _ => 0))), ((auX 6), .inr (8, [.ref (auX 32), .ref (auX 33), .int 0, .int 0, .int 0, .int 0, .int 0])), ((auX 32), .inl ((cuX 17), 301, .inl (fun _ => 0))), ((auX 33), .inl ((cuX 18), 301, .inl (fun _ => 0))), ((auX 7), .inr (11, [.int (-1), .int 0, .int 0, .ref (auX 34), .ref (auX 35), .ref (auX 36), .ref (auX 37), .ref (auX 38)])), ((auX 34), .inl ((cuX 19), 16, .inl (fun _ => 0))), ((auX 35), .inl ((cuX 20), 16, .inl (fun _ => 0))), ((auX 36), .inl ((cuX 21), 16, .inl (fun _ => 0))), ((auX 37), .inl ((cuX 22), 16, .inl (fun _ => 0))), ((auX 38), .inl ((cuX 23), 100, .inl (fun _ => 0))), ((auX 8), .inr (3, [.ref (auX 39), .ref (auX 40), .int 0, .long 0])), ((auX 39), .inl ((cuX 24), 24, .inl (fun _ => 0))), ((auX 40), .inl ((cuX 25), 24, .inl (fun _ => 0))), ((auX 9), .inr (9, [.ref (auX 41), .ref (auX 42), .ref (auX 43), .ref (auX 44), .int 0, .int 0])), ((auX 41), .inl ((cuX 26), 9, .inl (fun _ => 0))), ((auX 42), .inl ((cuX 27), 9, .inl (fun _ => 0))), ((auX 43), .inl ((cuX 28), 9, .inl (fun _ => 0))), ((auX 44), .inl ((cuX 29), 0, .inl (fun _ => 0))), ((auX 10), .inr (7, [.int 0, .ref (auX 45), .ref (auX 46), .ref (auX 47), .ref (auX 48), .ref (auX 49), .ref (auX 50), .ref (auX 51), .ref (auX 52), .int (-1)])), ((auX 45), .inl ((cuX 30), 64, .inl (fun _ => 0))), ((auX 46), .inl ((cuX 31), 64, .inl (fun _ => 0))), ((auX 47), .inl ((cuX 32), 8, .inl (fun _ => 0))), ((auX 48), .inl ((cuX 33), 8, .inl (fun _ => 0))), ((auX 49), .inl ((cuX 34), 8, .inl (fun _ => 0))), ((auX 50), .inl ((cuX 35), 256, .inl (fun _ => 0))), ((auX 51), .inl ((cuX 36), 64, .inl (fun _ => 0))), ((auX 52), .inl ((cuX 37), 64, .inr (.inl (fun _ => 0)))), ((auX 11), .inr (7, [.int 0, .ref (auX 53), .ref (auX 54), .ref (auX 55), .ref (auX 56), .ref (auX 57), .ref (auX 58), .ref (auX 59), .ref (auX 60), .int (-1)])), ((auX 53), .inl ((cuX 38), 64, .inl (fun _ => 0))), ((auX 54), .inl ((cuX 39), 64, .inl (fun _ => 0))), ((auX 55), .inl ((cuX 40), 8, .inl (fun _ => 0))), ((auX 56), .inl ((cuX 41), 8, .inl (fun _ => 0))), ((auX 57), .inl ((cuX 42), 8, .inl (fun _ => 0))), ((auX 58), .inl ((cuX 43), 256, .inl (fun _ => 0))), ((auX 59), .inl ((cuX 44), 64, .inl (fun _ => 0))), ((auX 60), .inl ((cuX 45), 64, .inr (.inl (fun _ => 0)))), (qM, .inr (13, [.int 0, .ref (auM 0), .int 0, .int 0, .ref (auM 1), .ref (auM 2), .ref (auM 3), .ref (auM 4), .ref (auM 5), .ref (auM 6), .ref (auM 7), .ref (auM 8), .ref (auM 9), .ref (auM 10), .ref (auM 11), .ref (auM 12), .int 0, .int 0, .int 0, .int 0, .int 0, .int 0, .int 0, .int 0, .int 0, .int 0, .int 0, .int 0, .long 0, .ref (auM 13), .ref (auM 14), .ref (auM 15), .ref (auM 16), .ref (auM 17), .ref (auM 18), .ref (auM 19), .ref (auM 20), .ref (auM 21), .ref (auM 22), .int 0, .int 0, .int 0, .int 0, .int 0, .int 0, .ref (auM 23), .ref (auM 24), .int (-1), .ref (auM 25), .ref (auM 26), .ref (auM 27), .ref (auM 28), .ref (auM 29), .ref (auM 30), .ref (auM 31), .ref (auM 32), .ref (auM 33), .ref (auM 34), .int 0, .int (-1), .ref (auM 35), .ref (auM 36), .ref (auM 37), .ref (auM 38), .ref (auM 39), .ref (auM 40), .ref (auM 41), .ref (auM 42), .ref (auM 43), .int 0, .long 0, .int (-1), .ref (auM 44), .ref (auM 45), .ref (auM 46), .ref (auM 47), .ref (auM 48), .ref (auM 49), .int 0, .int 0, .ref (auM 50), .ref (auM 51), .ref (auM 52), .ref (auM 53), .ref (auM 54), .ref (auM 55), .ref (auM 56), .int 0, .int 0, .int (-1), .int (-1)])), ((auM 0), .inl ((cuM 0), 420, .inl (fun _ => 0))), ((auM 1), .inl ((cuM 1), 40, .inl (fun _ => 0))), ((auM 2), .inl ((cuM 2), 40, .inl (fun _ => 0))), ((auM 3), .inl ((cuM 3), 40, .inl (fun _ => 0))), ((auM 4), .inl ((cuM 4), 40, .inl (fun _ => 0))), ((auM 5), .inl ((cuM 5), 40, .inl (fun _ => 0))), ((auM 6), .inl ((cuM 6), 10, .inl (guM 0))), ((auM 7), .inl ((cuM 7), 400, .inl (fun _ => 0))), ((auM 8), .inl ((cuM 8), 1600, .inl (fun _ => 0))), ((auM 9), .inl ((cuM 9), 40, .inl (fun _ => 0))), ((auM 10), .inl ((cuM 10), 4, .inl (guM 1))), ((auM 11), .inl ((cuM 11), 6, .inl (guM 2))), ((auM 12), .inl ((cuM 12), 100, .inl (fun _ => 0))), ((auM 13), .inl ((cuM 13), 11, .inl (fun _ => 0))), ((auM 14), .inl ((cuM 14), 11, .inl (fun _ => 0))), ((auM 15), .inl ((cuM 15), 176, .inl (fun _ => 0))), ((auM 16), .inl ((cuM 16), 176, .inl (fun _ => 0))), ((auM 17), .inl ((cuM 17), 176, .inl (fun _ => 0))), ((auM 18), .inl ((cuM 18), 176, .inl (fun _ => 0))), ((auM 19), .inl ((cuM 19), 1320, .inl (fun _ => 0))), ((auM 20), .inl ((cuM 20), 1320, .inl (fun _ => 0))), ((auM 21), .inl ((cuM 21), 1320, .inl (fun _ => 0))), ((auM 22), .inl ((cuM 22), 64, .inl (fun _ => 0))), ((auM 23), .inl ((cuM 23), 12, .inl (fun _ => 0))), ((auM 24), .inl ((cuM 24), 64, .inl (fun _ => 0))), ((auM 25), .inl ((cuM 25), 200, .inl (fun _ => 0))), ((auM 26), .inl ((cuM 26), 200, .inl (fun _ => 0))), ((auM 27), .inl ((cuM 27), 200, .inl (fun _ => 0))), ((auM 28), .inl ((cuM 28), 200, .inl (fun _ => 0))), ((auM 29), .inl ((cuM 29), 200, .inl (fun _ => 0))), ((auM 30), .inl ((cuM 30), 200, .inl (fun _ => 0))), ((auM 31), .inl ((cuM 31), 200, .inl (fun _ => 0))), ((auM 32), .inl ((cuM 32), 200, .inl (fun _ => 0))), ((auM 33), .inl ((cuM 33), 200, .inl (fun _ => 0))), ((auM 34), .inl ((cuM 34), 200, .inl (fun _ => 0))), ((auM 35), .inl ((cuM 35), 200, .inl (fun _ => 0))), ((auM 36), .inl ((cuM 36), 200, .inl (fun _ => 0))), ((auM 37), .inl ((cuM 37), 200, .inl (fun _ => 0))), ((auM 38), .inl ((cuM 38), 200, .inl (fun _ => 0))), ((auM 39), .inl ((cuM 39), 60, .inl (fun _ => 0))), ((auM 40), .inl ((cuM 40), 60, .inl (fun _ => 0))), ((auM 41), .inl ((cuM 41), 60, .inl (fun _ => 0))), ((auM 42), .inl ((cuM 42), 60, .inl (fun _ => 0))), ((auM 43), .inl ((cuM 43), 60, .inl (fun _ => 0))), ((auM 44), .inl ((cuM 44), 64, .inl (fun _ => 0))), ((auM 45), .inl ((cuM 45), 64, .inl (fun _ => 0))), ((auM 46), .inl ((cuM 46), 8, .inl (fun _ => 0))), ((auM 47), .inl ((cuM 47), 8, .inl (fun _ => 0))), ((auM 48), .inl ((cuM 48), 8, .inl (fun _ => 0))), ((auM 49), .inl ((cuM 49), 64, .inl (fun _ => 0))), ((auM 50), .inl ((cuM 50), 64, .inl (fun _ => 0))), ((auM 51), .inl ((cuM 51), 64, .inl (fun _ => 0))), ((auM 52), .inl ((cuM 52), 10, .inl (fun _ => 0))), ((auM 53), .inl ((cuM 53), 10, .inl (fun _ => 0))), ((auM 54), .inl ((cuM 54), 9, .inl (fun _ => 0))), ((auM 55), .inl ((cuM 55), 10, .inl (fun _ => 0))), ((auM 56), .inl ((cuM 56), 10, .inl (fun _ => 0))), (qO, .inl (kO, 1, .inr (.inl (fun _ => 0))))]
def lawT (qX : Nat) (qM : Nat) (qO : Nat) (kO : ClassId) (t0 : Nat) (auX : Nat → Nat) (cuX : Nat → ClassId) (guX : Nat → Nat → Int32) (zuX : Nat → Int32) (ruX : Nat → Nat → Nat) (auM : Nat → Nat) (cuM : Nat → ClassId) (guM : Nat → Nat → Int32) (zuM : Nat → Int32) (ruM : Nat → Nat → Nat) : List (ClassId × FieldType) := [((cuX 0), .int), ((cuX 1), .int), ((cuX 2), .array .int), ((cuX 3), .int), ((cuX 4), .int), ((cuX 5), .array .int), ((cuX 6), .int), ((cuX 7), .array .int), ((cuX 8), .int), ((cuX 9), .int), ((cuX 10), .int), ((cuX 11), .int), ((cuX 12), .int), ((cuX 13), .int), ((cuX 14), .int), ((cuX 15), .int), ((cuX 16), .int), ((cuX 17), .int), ((cuX 18), .int), ((cuX 19), .int), ((cuX 20), .int), ((cuX 21), .int), ((cuX 22), .int), ((cuX 23), .int), ((cuX 24), .int), ((cuX 25), .int), ((cuX 26), .int), ((cuX 27), .int), ((cuX 28), .int), ((cuX 29), .int), ((cuX 30), .int), ((cuX 31), .int), ((cuX 32), .int), ((cuX 33), .int), ((cuX 34), .int), ((cuX 35), .int), ((cuX 36), .boolean), ((cuX 37), .long), ((cuX 38), .int), ((cuX 39), .int), ((cuX 40), .int), ((cuX 41), .int), ((cuX 42), .int), ((cuX 43), .int), ((cuX 44), .boolean), ((cuX 45), .long), ((cuM 0), .int), ((cuM 1), .int), ((cuM 2), .int), ((cuM 3), .int), ((cuM 4), .int), ((cuM 5), .boolean), ((cuM 6), .int), ((cuM 7), .int), ((cuM 8), .int), ((cuM 9), .int), ((cuM 10), .int), ((cuM 11), .int), ((cuM 12), .int), ((cuM 13), .int), ((cuM 14), .int), ((cuM 15), .int), ((cuM 16), .int), ((cuM 17), .int), ((cuM 18), .int), ((cuM 19), .int), ((cuM 20), .int), ((cuM 21), .int), ((cuM 22), .int), ((cuM 23), .int), ((cuM 24), .boolean), ((cuM 25), .int), ((cuM 26), .int), ((cuM 27), .int), ((cuM 28), .int), ((cuM 29), .int), ((cuM 30), .int), ((cuM 31), .int), ((cuM 32), .int), ((cuM 33), .int), ((cuM 34), .int), ((cuM 35), .int), ((cuM 36), .int), ((cuM 37), .boolean), ((cuM 38), .boolean), ((cuM 39), .int), ((cuM 40), .int), ((cuM 41), .int), ((cuM 42), .int), ((cuM 43), .int), ((cuM 44), .int), ((cuM 45), .int), ((cuM 46), .int), ((cuM 47), .int), ((cuM 48), .int), ((cuM 49), .boolean), ((cuM 50), .int), ((cuM 51), .int), ((cuM 52), .int), ((cuM 53), .int), ((cuM 54), .int), ((cuM 55), .int), ((cuM 56), .int), (kO, .long)]
set_option maxRecDepth 20000 in
theorem law_nst {args : Array Value} {s : State} (hts : ∀ w ∈ lw_tbl, w.before args s = true) : nst s := ⟨List.forall_mem_cons.mpr ⟨va_Nw.of rfl (hts _ (tb_1 _ (List.mem_of_getElem? (i := 41) rfl))), List.forall_mem_cons.mpr ⟨va_Nw.of rfl (hts _ (tb_1 _ (List.mem_of_getElem? (i := 63) rfl))), List.forall_mem_cons.mpr ⟨va_Nw.of rfl (hts _ (tb_1 _ (List.mem_of_getElem? (i := 168) rfl))), List.forall_mem_cons.mpr ⟨va_Nw.of rfl (hts _ (tb_1 _ (List.mem_of_getElem? (i := 190) rfl))), List.forall_mem_cons.mpr ⟨va_Nw.of rfl (hts _ (tb_1 _ (List.mem_of_getElem? (i := 225) rfl))), List.forall_mem_cons.mpr ⟨va_Nw.of rfl (hts _ (tb_2 _ (List.mem_of_getElem? (i := 15) rfl))), List.forall_mem_cons.mpr ⟨va_Nw.of rfl (hts _ (tb_2 _ (List.mem_of_getElem? (i := 35) rfl))), List.forall_mem_cons.mpr ⟨va_Nw.of rfl (hts _ (tb_2 _ (List.mem_of_getElem? (i := 62) rfl))), fun _ h => absurd h List.not_mem_nil⟩⟩⟩⟩⟩⟩⟩⟩, hts (Cond.arrayOver (.array .int)) (tb_1 _ (List.mem_of_getElem? (i := 74) rfl)), hts (Cond.arrayOver (.object "java/lang/Object")) (tb_3 _ (List.mem_of_getElem? (i := 30) rfl)), va_Nw.of rfl (hts (Cond.castable RX0 "java/lang/Object") (tb_8 _ (List.mem_of_getElem? (i := 199) rfl))), va_Nw.of rfl (hts (Cond.castable RX10 "java/lang/Object") (tb_8 _ (List.mem_of_getElem? (i := 193) rfl)))⟩
set_option maxRecDepth 20000 in
theorem law_als {args : Array Value} {s : State} (hts : ∀ w ∈ lw_tbl, w.before args s = true) (hgv : (Jvm.Cond.and given_1 narrow_1).before args s = true) : ∃ t : Nat, als t (fun q : Nat => s.heap.size ≤ q) s s.heap := by
  have hs := flat_of_before _ hgv
  have h1 : (Cond.arrayOf (.static "java/util/ArrayList" "DEFAULTCAPACITY_EMPTY_ELEMENTDATA" "[Ljava/lang/Object;") (.object "java/lang/Object")).before args s = true := hs _ (by decide +kernel)
  have h2 : (Cond.eq (.length (.static "java/util/ArrayList" "DEFAULTCAPACITY_EMPTY_ELEMENTDATA" "[Ljava/lang/Object;")) (.int 0)).before args s = true := hs _ (by decide +kernel)
  have hA : ∀ a : Nat, a < s.heap.size → ¬ (fun q : Nat => s.heap.size ≤ q) a := fun a h q => absurd q (Nat.not_le.mpr h)
  obtain ⟨t, ht, hT⟩ := va_Tof (N := 0) (f := fun _ => .null) (by decide) h1 (va_eqt h2) (fun j hj => absurd hj (Nat.not_lt_zero j)) hA
  exact ⟨t, va_Zref (hts _ (tb_1 _ (List.mem_of_getElem? (i := 120) rfl))) (hts (Cond.initialized "java/util/ArrayList") (tb_1 _ (List.mem_of_getElem? (i := 7) rfl))) ht hA, hT⟩
set_option maxHeartbeats 4000000 in
set_option maxRecDepth 100000 in
theorem law_tail {p : Program} {l : Launch} {e : Env} {s : State} {m : MethodId} {below : List Frame} {meth : Method} {c : Code} {b : Nat} {xs : Nat → Int32} (C0 : lw_At p s m meth c b 6 xs) {H : Heap} {locs : List Loc} {cells slots : Nat} (hc : cells ≤ 600002) (hs : slots ≤ 7302232) (hS : va_S (fun q : Nat => s.heap.size ≤ q) s.heap H locs) {ls : Array Slot} (hl : lv_has ls 7 [(0, .ref b), (4, .int 0)]) : W p l e room_1 s m #[Value.ref b] below meth c H locs cells slots (lw_Z below #[Value.ref b] s) (F0 m 1522 ls []) := by
  obtain ⟨hx, hb, hr, hml, hown, hts, hX, hbl, hlocks, hgv⟩ := id C0
  have hbA : ¬ (fun q : Nat => s.heap.size ≤ q) b := Nat.not_le.mpr hbl
  refine lv_iinc (v := 6) (lv' := [(4, .int 6), (0, .ref b)]) hx hb dL_law_1522 hl (k := 1) rfl (by decide) (by decide) rfl (fun ls hl => ?_)
  refine lv_goto (tgt := 23) hx hb dL_law_1525 (by decide) ?_
  refine lv_iload hx hb dL_law_23 (lv_at hl 0 rfl) ?_
  refine lv_aload_n hx hb dL_law_25 rfl (lv_at hl 1 rfl) ?_
  refine va_slen hx hb hX hbl hbA hS dL_law_26 ?_
  refine lv_bipush (v := 6) hx hb dL_law_27 (by decide) ?_
  refine lv_isub hx hb dL_law_29 ?_
  refine lv_topi (fun x_1 ex_1 => ?_)
  obtain rfl : x_1 = 0 := ex_1.trans (by decide)
  refine lv_icmp_gt (tgt := 1528) hx hb dL_law_30 (by decide) (fun _ => ?_) (fun c9 => absurd (by decide) c9)
  refine lv_iconst (v := 1) hx hb dL_law_1528 (by decide) ?_
  refine va_forget (fun q hq => hS.2.2 q hq) ?_
  refine W.widen (k := 600002) (n := 7302232) hc hs ?_
  exact lw_ret hx hb hr hlocks dL_law_1529
theorem eq_X11_feed_v1_X12_feed_v1 (p0 : Int32) (p1 : Int32) (p2 : Int32) (p3 : Int32) (p4 : Int32) (r1 r2 : Int32) (h1 : r1 = 20) (h2 : r2 = 20) : r1 = r2 := by
  obtain rfl := h1
  obtain rfl := h2
  exact rfl

theorem eq_X11_end_v1_X12_end_v1 (p0 : Int32) (r1 r2 : Int32) (h1 : (p0 < 0 ∧ r1 = 0) ∨ (¬ p0 < 0 ∧ p0 ≤ 0 ∧ r1 = 1) ∨ (¬ p0 < 0 ∧ ¬ p0 ≤ 0 ∧ r1 = 0)) (h2 : (p0 < 0 ∧ r2 = 0) ∨ (¬ p0 < 0 ∧ p0 ≤ 0 ∧ r2 = 1) ∨ (¬ p0 < 0 ∧ ¬ p0 ≤ 0 ∧ r2 = 0)) : r1 = r2 := by
  rcases h1 with ⟨a0, rfl⟩ | ⟨a0, a1, rfl⟩ | ⟨a0, a1, rfl⟩
  · rcases h2 with ⟨b0, rfl⟩ | ⟨b0, b1, rfl⟩ | ⟨b0, b1, rfl⟩
    · exact rfl
    · exact absurd a0 b0
    · exact rfl
  · rcases h2 with ⟨b0, rfl⟩ | ⟨b0, b1, rfl⟩ | ⟨b0, b1, rfl⟩
    · exact absurd b0 a0
    · exact rfl
    · exact absurd a1 b1
  · rcases h2 with ⟨b0, rfl⟩ | ⟨b0, b1, rfl⟩ | ⟨b0, b1, rfl⟩
    · exact rfl
    · exact absurd b1 a1
    · exact rfl

theorem eq_X11_boy_v1_X12_boy_v1 (p0 : Int32) (p1 : Int32) (p2 : Int32) (r1 r2 : Int32) (h1 : (p0 < 6 ∧ r1 = (-1)) ∨ (¬ p0 < 6 ∧ 18 < p0 ∧ r1 = (-1)) ∨ (¬ p0 < 6 ∧ ¬ 18 < p0 ∧ p1 = (-1) ∧ p2 < 0 ∧ r1 = (-1)) ∨ (¬ p0 < 6 ∧ ¬ 18 < p0 ∧ p1 = (-1) ∧ ¬ p2 < 0 ∧ 99 < p2 ∧ r1 = (-1)) ∨ (¬ p0 < 6 ∧ ¬ 18 < p0 ∧ p1 = (-1) ∧ ¬ p2 < 0 ∧ ¬ 99 < p2 ∧ r1 = 0) ∨ (¬ p0 < 6 ∧ ¬ 18 < p0 ∧ ¬ p1 = (-1) ∧ p1 < 0 ∧ r1 = (-1)) ∨ (¬ p0 < 6 ∧ ¬ 18 < p0 ∧ ¬ p1 = (-1) ∧ ¬ p1 < 0 ∧ 399 < p1 ∧ r1 = (-1)) ∨ (¬ p0 < 6 ∧ ¬ 18 < p0 ∧ ¬ p1 = (-1) ∧ ¬ p1 < 0 ∧ ¬ 399 < p1 ∧ p2 < 0 ∧ r1 = (-1)) ∨ (¬ p0 < 6 ∧ ¬ 18 < p0 ∧ ¬ p1 = (-1) ∧ ¬ p1 < 0 ∧ ¬ 399 < p1 ∧ ¬ p2 < 0 ∧ 99 < p2 ∧ r1 = (-1)) ∨ (¬ p0 < 6 ∧ ¬ 18 < p0 ∧ ¬ p1 = (-1) ∧ ¬ p1 < 0 ∧ ¬ 399 < p1 ∧ ¬ p2 < 0 ∧ ¬ 99 < p2 ∧ r1 = 0)) (h2 : (p0 < 6 ∧ r2 = (-1)) ∨ (¬ p0 < 6 ∧ 18 < p0 ∧ r2 = (-1)) ∨ (¬ p0 < 6 ∧ ¬ 18 < p0 ∧ p1 < (-1) ∧ r2 = (-1)) ∨ (¬ p0 < 6 ∧ ¬ 18 < p0 ∧ ¬ p1 < (-1) ∧ 399 < p1 ∧ r2 = (-1)) ∨ (¬ p0 < 6 ∧ ¬ 18 < p0 ∧ ¬ p1 < (-1) ∧ ¬ 399 < p1 ∧ p2 < 0 ∧ r2 = (-1)) ∨ (¬ p0 < 6 ∧ ¬ 18 < p0 ∧ ¬ p1 < (-1) ∧ ¬ 399 < p1 ∧ ¬ p2 < 0 ∧ 99 < p2 ∧ r2 = (-1)) ∨ (¬ p0 < 6 ∧ ¬ 18 < p0 ∧ ¬ p1 < (-1) ∧ ¬ 399 < p1 ∧ ¬ p2 < 0 ∧ ¬ 99 < p2 ∧ r2 = 0)) : r1 = r2 := by
  rcases h1 with ⟨a0, rfl⟩ | ⟨a0, a1, rfl⟩ | ⟨a0, a1, a2, a3, rfl⟩ | ⟨a0, a1, a2, a3, a4, rfl⟩ | ⟨a0, a1, a2, a3, a4, rfl⟩ | ⟨a0, a1, a2, a3, rfl⟩ | ⟨a0, a1, a2, a3, a4, rfl⟩ | ⟨a0, a1, a2, a3, a4, a5, rfl⟩ | ⟨a0, a1, a2, a3, a4, a5, a6, rfl⟩ | ⟨a0, a1, a2, a3, a4, a5, a6, rfl⟩
  · rcases h2 with ⟨b0, rfl⟩ | ⟨b0, b1, rfl⟩ | ⟨b0, b1, b2, rfl⟩ | ⟨b0, b1, b2, b3, rfl⟩ | ⟨b0, b1, b2, b3, b4, rfl⟩ | ⟨b0, b1, b2, b3, b4, b5, rfl⟩ | ⟨b0, b1, b2, b3, b4, b5, rfl⟩
    · exact rfl
    · exact rfl
    · exact rfl
    · exact rfl
    · exact rfl
    · exact rfl
    · exact absurd a0 b0
  · rcases h2 with ⟨b0, rfl⟩ | ⟨b0, b1, rfl⟩ | ⟨b0, b1, b2, rfl⟩ | ⟨b0, b1, b2, b3, rfl⟩ | ⟨b0, b1, b2, b3, b4, rfl⟩ | ⟨b0, b1, b2, b3, b4, b5, rfl⟩ | ⟨b0, b1, b2, b3, b4, b5, rfl⟩
    · exact rfl
    · exact rfl
    · exact rfl
    · exact rfl
    · exact rfl
    · exact rfl
    · exact absurd a1 b1
  · rcases h2 with ⟨b0, rfl⟩ | ⟨b0, b1, rfl⟩ | ⟨b0, b1, b2, rfl⟩ | ⟨b0, b1, b2, b3, rfl⟩ | ⟨b0, b1, b2, b3, b4, rfl⟩ | ⟨b0, b1, b2, b3, b4, b5, rfl⟩ | ⟨b0, b1, b2, b3, b4, b5, rfl⟩
    · exact rfl
    · exact rfl
    · exact rfl
    · exact rfl
    · exact rfl
    · exact rfl
    · exact absurd a3 b4
  · rcases h2 with ⟨b0, rfl⟩ | ⟨b0, b1, rfl⟩ | ⟨b0, b1, b2, rfl⟩ | ⟨b0, b1, b2, b3, rfl⟩ | ⟨b0, b1, b2, b3, b4, rfl⟩ | ⟨b0, b1, b2, b3, b4, b5, rfl⟩ | ⟨b0, b1, b2, b3, b4, b5, rfl⟩
    · exact rfl
    · exact rfl
    · exact rfl
    · exact rfl
    · exact rfl
    · exact rfl
    · exact absurd a4 b5
  · rcases h2 with ⟨b0, rfl⟩ | ⟨b0, b1, rfl⟩ | ⟨b0, b1, b2, rfl⟩ | ⟨b0, b1, b2, b3, rfl⟩ | ⟨b0, b1, b2, b3, b4, rfl⟩ | ⟨b0, b1, b2, b3, b4, b5, rfl⟩ | ⟨b0, b1, b2, b3, b4, b5, rfl⟩
    · exact absurd b0 a0
    · exact absurd b1 a1
    · exact (by have y0 := fa_eq a2 (show ((-1) : Int32).toInt = (-1) from by decide); have y1 := fa_lt b2 (show ((-1) : Int32).toInt = (-1) from by decide); omega : False).elim
    · exact (by have y0 := fa_eq a2 (show ((-1) : Int32).toInt = (-1) from by decide); have y1 := fa_nlt b2 (show ((-1) : Int32).toInt = (-1) from by decide); have y2 := fb_lt b3 (show (399 : Int32).toInt = 399 from by decide); omega : False).elim
    · exact absurd b4 a3
    · exact absurd b5 a4
    · exact rfl
  · rcases h2 with ⟨b0, rfl⟩ | ⟨b0, b1, rfl⟩ | ⟨b0, b1, b2, rfl⟩ | ⟨b0, b1, b2, b3, rfl⟩ | ⟨b0, b1, b2, b3, b4, rfl⟩ | ⟨b0, b1, b2, b3, b4, b5, rfl⟩ | ⟨b0, b1, b2, b3, b4, b5, rfl⟩
    · exact rfl
    · exact rfl
    · exact rfl
    · exact rfl
    · exact rfl
    · exact rfl
    · exact (by have y0 := fa_ne a2 (show ((-1) : Int32).toInt = (-1) from by decide); have y1 := fa_lt a3 (show (0 : Int32).toInt = 0 from by decide); have y2 := fa_nlt b2 (show ((-1) : Int32).toInt = (-1) from by decide); have y3 := fb_nlt b3 (show (399 : Int32).toInt = 399 from by decide); omega : False).elim
  · rcases h2 with ⟨b0, rfl⟩ | ⟨b0, b1, rfl⟩ | ⟨b0, b1, b2, rfl⟩ | ⟨b0, b1, b2, b3, rfl⟩ | ⟨b0, b1, b2, b3, b4, rfl⟩ | ⟨b0, b1, b2, b3, b4, b5, rfl⟩ | ⟨b0, b1, b2, b3, b4, b5, rfl⟩
    · exact rfl
    · exact rfl
    · exact rfl
    · exact rfl
    · exact rfl
    · exact rfl
    · exact absurd a4 b3
  · rcases h2 with ⟨b0, rfl⟩ | ⟨b0, b1, rfl⟩ | ⟨b0, b1, b2, rfl⟩ | ⟨b0, b1, b2, b3, rfl⟩ | ⟨b0, b1, b2, b3, b4, rfl⟩ | ⟨b0, b1, b2, b3, b4, b5, rfl⟩ | ⟨b0, b1, b2, b3, b4, b5, rfl⟩
    · exact rfl
    · exact rfl
    · exact rfl
    · exact rfl
    · exact rfl
    · exact rfl
    · exact absurd a5 b4
  · rcases h2 with ⟨b0, rfl⟩ | ⟨b0, b1, rfl⟩ | ⟨b0, b1, b2, rfl⟩ | ⟨b0, b1, b2, b3, rfl⟩ | ⟨b0, b1, b2, b3, b4, rfl⟩ | ⟨b0, b1, b2, b3, b4, b5, rfl⟩ | ⟨b0, b1, b2, b3, b4, b5, rfl⟩
    · exact rfl
    · exact rfl
    · exact rfl
    · exact rfl
    · exact rfl
    · exact rfl
    · exact absurd a6 b5
  · rcases h2 with ⟨b0, rfl⟩ | ⟨b0, b1, rfl⟩ | ⟨b0, b1, b2, rfl⟩ | ⟨b0, b1, b2, b3, rfl⟩ | ⟨b0, b1, b2, b3, b4, rfl⟩ | ⟨b0, b1, b2, b3, b4, b5, rfl⟩ | ⟨b0, b1, b2, b3, b4, b5, rfl⟩
    · exact absurd b0 a0
    · exact absurd b1 a1
    · exact (by have y0 := fa_ne a2 (show ((-1) : Int32).toInt = (-1) from by decide); have y1 := fa_nlt a3 (show (0 : Int32).toInt = 0 from by decide); have y2 := fb_nlt a4 (show (399 : Int32).toInt = 399 from by decide); have y3 := fa_lt b2 (show ((-1) : Int32).toInt = (-1) from by decide); omega : False).elim
    · exact absurd b3 a4
    · exact absurd b4 a5
    · exact absurd b5 a6
    · exact rfl

theorem eq_X11_boy_v2_X12_boy_v2 (p0 : Int32) (p1 : Int32) (p2 : Int32) (r1 r2 : Int32) (h1 : (p0 < 6 ∧ r1 = (-1)) ∨ (¬ p0 < 6 ∧ 18 < p0 ∧ r1 = (-1)) ∨ (¬ p0 < 6 ∧ ¬ 18 < p0 ∧ p1 = (-1) ∧ p2 < 0 ∧ r1 = (-1)) ∨ (¬ p0 < 6 ∧ ¬ 18 < p0 ∧ p1 = (-1) ∧ ¬ p2 < 0 ∧ 99 < p2 ∧ r1 = (-1)) ∨ (¬ p0 < 6 ∧ ¬ 18 < p0 ∧ p1 = (-1) ∧ ¬ p2 < 0 ∧ ¬ 99 < p2 ∧ r1 = 0) ∨ (¬ p0 < 6 ∧ ¬ 18 < p0 ∧ ¬ p1 = (-1) ∧ p1 < 0 ∧ r1 = (-1)) ∨ (¬ p0 < 6 ∧ ¬ 18 < p0 ∧ ¬ p1 = (-1) ∧ ¬ p1 < 0 ∧ 399 < p1 ∧ r1 = (-1)) ∨ (¬ p0 < 6 ∧ ¬ 18 < p0 ∧ ¬ p1 = (-1) ∧ ¬ p1 < 0 ∧ ¬ 399 < p1 ∧ p2 < 0 ∧ r1 = (-1)) ∨ (¬ p0 < 6 ∧ ¬ 18 < p0 ∧ ¬ p1 = (-1) ∧ ¬ p1 < 0 ∧ ¬ 399 < p1 ∧ ¬ p2 < 0 ∧ 99 < p2 ∧ r1 = (-1)) ∨ (¬ p0 < 6 ∧ ¬ 18 < p0 ∧ ¬ p1 = (-1) ∧ ¬ p1 < 0 ∧ ¬ 399 < p1 ∧ ¬ p2 < 0 ∧ ¬ 99 < p2 ∧ r1 = 0)) (h2 : (p0 < 6 ∧ r2 = (-1)) ∨ (¬ p0 < 6 ∧ 18 < p0 ∧ r2 = (-1)) ∨ (¬ p0 < 6 ∧ ¬ 18 < p0 ∧ p1 < (-1) ∧ r2 = (-1)) ∨ (¬ p0 < 6 ∧ ¬ 18 < p0 ∧ ¬ p1 < (-1) ∧ 399 < p1 ∧ r2 = (-1)) ∨ (¬ p0 < 6 ∧ ¬ 18 < p0 ∧ ¬ p1 < (-1) ∧ ¬ 399 < p1 ∧ p2 < 0 ∧ r2 = (-1)) ∨ (¬ p0 < 6 ∧ ¬ 18 < p0 ∧ ¬ p1 < (-1) ∧ ¬ 399 < p1 ∧ ¬ p2 < 0 ∧ 99 < p2 ∧ r2 = (-1)) ∨ (¬ p0 < 6 ∧ ¬ 18 < p0 ∧ ¬ p1 < (-1) ∧ ¬ 399 < p1 ∧ ¬ p2 < 0 ∧ ¬ 99 < p2 ∧ r2 = 0)) : r1 = r2 := by
  rcases h1 with ⟨a0, rfl⟩ | ⟨a0, a1, rfl⟩ | ⟨a0, a1, a2, a3, rfl⟩ | ⟨a0, a1, a2, a3, a4, rfl⟩ | ⟨a0, a1, a2, a3, a4, rfl⟩ | ⟨a0, a1, a2, a3, rfl⟩ | ⟨a0, a1, a2, a3, a4, rfl⟩ | ⟨a0, a1, a2, a3, a4, a5, rfl⟩ | ⟨a0, a1, a2, a3, a4, a5, a6, rfl⟩ | ⟨a0, a1, a2, a3, a4, a5, a6, rfl⟩
  · rcases h2 with ⟨b0, rfl⟩ | ⟨b0, b1, rfl⟩ | ⟨b0, b1, b2, rfl⟩ | ⟨b0, b1, b2, b3, rfl⟩ | ⟨b0, b1, b2, b3, b4, rfl⟩ | ⟨b0, b1, b2, b3, b4, b5, rfl⟩ | ⟨b0, b1, b2, b3, b4, b5, rfl⟩
    · exact rfl
    · exact rfl
    · exact rfl
    · exact rfl
    · exact rfl
    · exact rfl
    · exact absurd a0 b0
  · rcases h2 with ⟨b0, rfl⟩ | ⟨b0, b1, rfl⟩ | ⟨b0, b1, b2, rfl⟩ | ⟨b0, b1, b2, b3, rfl⟩ | ⟨b0, b1, b2, b3, b4, rfl⟩ | ⟨b0, b1, b2, b3, b4, b5, rfl⟩ | ⟨b0, b1, b2, b3, b4, b5, rfl⟩
    · exact rfl
    · exact rfl
    · exact rfl
    · exact rfl
    · exact rfl
    · exact rfl
    · exact absurd a1 b1
  · rcases h2 with ⟨b0, rfl⟩ | ⟨b0, b1, rfl⟩ | ⟨b0, b1, b2, rfl⟩ | ⟨b0, b1, b2, b3, rfl⟩ | ⟨b0, b1, b2, b3, b4, rfl⟩ | ⟨b0, b1, b2, b3, b4, b5, rfl⟩ | ⟨b0, b1, b2, b3, b4, b5, rfl⟩
    · exact rfl
    · exact rfl
    · exact rfl
    · exact rfl
    · exact rfl
    · exact rfl
    · exact absurd a3 b4
  · rcases h2 with ⟨b0, rfl⟩ | ⟨b0, b1, rfl⟩ | ⟨b0, b1, b2, rfl⟩ | ⟨b0, b1, b2, b3, rfl⟩ | ⟨b0, b1, b2, b3, b4, rfl⟩ | ⟨b0, b1, b2, b3, b4, b5, rfl⟩ | ⟨b0, b1, b2, b3, b4, b5, rfl⟩
    · exact rfl
    · exact rfl
    · exact rfl
    · exact rfl
    · exact rfl
    · exact rfl
    · exact absurd a4 b5
  · rcases h2 with ⟨b0, rfl⟩ | ⟨b0, b1, rfl⟩ | ⟨b0, b1, b2, rfl⟩ | ⟨b0, b1, b2, b3, rfl⟩ | ⟨b0, b1, b2, b3, b4, rfl⟩ | ⟨b0, b1, b2, b3, b4, b5, rfl⟩ | ⟨b0, b1, b2, b3, b4, b5, rfl⟩
    · exact absurd b0 a0
    · exact absurd b1 a1
    · exact (by have y0 := fa_eq a2 (show ((-1) : Int32).toInt = (-1) from by decide); have y1 := fa_lt b2 (show ((-1) : Int32).toInt = (-1) from by decide); omega : False).elim
    · exact (by have y0 := fa_eq a2 (show ((-1) : Int32).toInt = (-1) from by decide); have y1 := fa_nlt b2 (show ((-1) : Int32).toInt = (-1) from by decide); have y2 := fb_lt b3 (show (399 : Int32).toInt = 399 from by decide); omega : False).elim
    · exact absurd b4 a3
    · exact absurd b5 a4
    · exact rfl
  · rcases h2 with ⟨b0, rfl⟩ | ⟨b0, b1, rfl⟩ | ⟨b0, b1, b2, rfl⟩ | ⟨b0, b1, b2, b3, rfl⟩ | ⟨b0, b1, b2, b3, b4, rfl⟩ | ⟨b0, b1, b2, b3, b4, b5, rfl⟩ | ⟨b0, b1, b2, b3, b4, b5, rfl⟩
    · exact rfl
    · exact rfl
    · exact rfl
    · exact rfl
    · exact rfl
    · exact rfl
    · exact (by have y0 := fa_ne a2 (show ((-1) : Int32).toInt = (-1) from by decide); have y1 := fa_lt a3 (show (0 : Int32).toInt = 0 from by decide); have y2 := fa_nlt b2 (show ((-1) : Int32).toInt = (-1) from by decide); have y3 := fb_nlt b3 (show (399 : Int32).toInt = 399 from by decide); omega : False).elim
  · rcases h2 with ⟨b0, rfl⟩ | ⟨b0, b1, rfl⟩ | ⟨b0, b1, b2, rfl⟩ | ⟨b0, b1, b2, b3, rfl⟩ | ⟨b0, b1, b2, b3, b4, rfl⟩ | ⟨b0, b1, b2, b3, b4, b5, rfl⟩ | ⟨b0, b1, b2, b3, b4, b5, rfl⟩
    · exact rfl
    · exact rfl
    · exact rfl
    · exact rfl
    · exact rfl
    · exact rfl
    · exact absurd a4 b3
  · rcases h2 with ⟨b0, rfl⟩ | ⟨b0, b1, rfl⟩ | ⟨b0, b1, b2, rfl⟩ | ⟨b0, b1, b2, b3, rfl⟩ | ⟨b0, b1, b2, b3, b4, rfl⟩ | ⟨b0, b1, b2, b3, b4, b5, rfl⟩ | ⟨b0, b1, b2, b3, b4, b5, rfl⟩
    · exact rfl
    · exact rfl
    · exact rfl
    · exact rfl
    · exact rfl
    · exact rfl
    · exact absurd a5 b4
  · rcases h2 with ⟨b0, rfl⟩ | ⟨b0, b1, rfl⟩ | ⟨b0, b1, b2, rfl⟩ | ⟨b0, b1, b2, b3, rfl⟩ | ⟨b0, b1, b2, b3, b4, rfl⟩ | ⟨b0, b1, b2, b3, b4, b5, rfl⟩ | ⟨b0, b1, b2, b3, b4, b5, rfl⟩
    · exact rfl
    · exact rfl
    · exact rfl
    · exact rfl
    · exact rfl
    · exact rfl
    · exact absurd a6 b5
  · rcases h2 with ⟨b0, rfl⟩ | ⟨b0, b1, rfl⟩ | ⟨b0, b1, b2, rfl⟩ | ⟨b0, b1, b2, b3, rfl⟩ | ⟨b0, b1, b2, b3, b4, rfl⟩ | ⟨b0, b1, b2, b3, b4, b5, rfl⟩ | ⟨b0, b1, b2, b3, b4, b5, rfl⟩
    · exact absurd b0 a0
    · exact absurd b1 a1
    · exact (by have y0 := fa_ne a2 (show ((-1) : Int32).toInt = (-1) from by decide); have y1 := fa_nlt a3 (show (0 : Int32).toInt = 0 from by decide); have y2 := fb_nlt a4 (show (399 : Int32).toInt = 399 from by decide); have y3 := fa_lt b2 (show ((-1) : Int32).toInt = (-1) from by decide); omega : False).elim
    · exact absurd b3 a4
    · exact absurd b4 a5
    · exact absurd b5 a6
    · exact rfl

theorem eq_X11_badge_v1_X12_badge_v1 (p0 : Int32) (p1 : Int32) (r1 r2 : Int32) (h1 : (p0 < 0 ∧ r1 = 0) ∨ (¬ p0 < 0 ∧ 0 ≤ p0 ∧ r1 = 0)) (h2 : (p0 < 0 ∧ r2 = 0) ∨ (¬ p0 < 0 ∧ 0 ≤ p0 ∧ r2 = 0)) : r1 = r2 := by
  rcases h1 with ⟨a0, rfl⟩ | ⟨a0, a1, rfl⟩
  · rcases h2 with ⟨b0, rfl⟩ | ⟨b0, b1, rfl⟩
    · exact rfl
    · exact rfl
  · rcases h2 with ⟨b0, rfl⟩ | ⟨b0, b1, rfl⟩
    · exact rfl
    · exact rfl

theorem eq_X11_owner_v1_X12_owner_v1 (p0 : Int32) (p1 : Int32) (r1 r2 : Int32) (h1 : (p0 < 0 ∧ r1 = 0) ∨ (¬ p0 < 0 ∧ 9 < p0 ∧ r1 = 0) ∨ (¬ p0 < 0 ∧ ¬ 9 < p0 ∧ p1 = (-1) ∧ r1 = 1) ∨ (¬ p0 < 0 ∧ ¬ 9 < p0 ∧ ¬ p1 = (-1) ∧ p1 < 0 ∧ r1 = 0) ∨ (¬ p0 < 0 ∧ ¬ 9 < p0 ∧ ¬ p1 = (-1) ∧ ¬ p1 < 0 ∧ 0 ≤ p1 ∧ r1 = 0)) (h2 : (p0 < 0 ∧ r2 = 0) ∨ (¬ p0 < 0 ∧ 10 ≤ p0 ∧ r2 = 0) ∨ (¬ p0 < 0 ∧ ¬ 10 ≤ p0 ∧ p1 = (-1) ∧ r2 = 1) ∨ (¬ p0 < 0 ∧ ¬ 10 ≤ p0 ∧ ¬ p1 = (-1) ∧ p1 < 0 ∧ r2 = 0) ∨ (¬ p0 < 0 ∧ ¬ 10 ≤ p0 ∧ ¬ p1 = (-1) ∧ ¬ p1 < 0 ∧ 0 ≤ p1 ∧ r2 = 0)) : r1 = r2 := by
  rcases h1 with ⟨a0, rfl⟩ | ⟨a0, a1, rfl⟩ | ⟨a0, a1, a2, rfl⟩ | ⟨a0, a1, a2, a3, rfl⟩ | ⟨a0, a1, a2, a3, a4, rfl⟩
  · rcases h2 with ⟨b0, rfl⟩ | ⟨b0, b1, rfl⟩ | ⟨b0, b1, b2, rfl⟩ | ⟨b0, b1, b2, b3, rfl⟩ | ⟨b0, b1, b2, b3, b4, rfl⟩
    · exact rfl
    · exact rfl
    · exact absurd a0 b0
    · exact rfl
    · exact rfl
  · rcases h2 with ⟨b0, rfl⟩ | ⟨b0, b1, rfl⟩ | ⟨b0, b1, b2, rfl⟩ | ⟨b0, b1, b2, b3, rfl⟩ | ⟨b0, b1, b2, b3, b4, rfl⟩
    · exact rfl
    · exact rfl
    · exact (by have y0 := fa_nlt a0 (show (0 : Int32).toInt = 0 from by decide); have y1 := fb_lt a1 (show (9 : Int32).toInt = 9 from by decide); have y2 := fa_nlt b0 (show (0 : Int32).toInt = 0 from by decide); have y3 := fb_nle b1 (show (10 : Int32).toInt = 10 from by decide); omega : False).elim
    · exact rfl
    · exact rfl
  · rcases h2 with ⟨b0, rfl⟩ | ⟨b0, b1, rfl⟩ | ⟨b0, b1, b2, rfl⟩ | ⟨b0, b1, b2, b3, rfl⟩ | ⟨b0, b1, b2, b3, b4, rfl⟩
    · exact absurd b0 a0
    · exact (by have y0 := fa_nlt a0 (show (0 : Int32).toInt = 0 from by decide); have y1 := fb_nlt a1 (show (9 : Int32).toInt = 9 from by decide); have y2 := fa_nlt b0 (show (0 : Int32).toInt = 0 from by decide); have y3 := fb_le b1 (show (10 : Int32).toInt = 10 from by decide); omega : False).elim
    · exact rfl
    · exact absurd a2 b2
    · exact absurd a2 b2
  · rcases h2 with ⟨b0, rfl⟩ | ⟨b0, b1, rfl⟩ | ⟨b0, b1, b2, rfl⟩ | ⟨b0, b1, b2, b3, rfl⟩ | ⟨b0, b1, b2, b3, b4, rfl⟩
    · exact rfl
    · exact rfl
    · exact absurd b2 a2
    · exact rfl
    · exact rfl
  · rcases h2 with ⟨b0, rfl⟩ | ⟨b0, b1, rfl⟩ | ⟨b0, b1, b2, rfl⟩ | ⟨b0, b1, b2, b3, rfl⟩ | ⟨b0, b1, b2, b3, b4, rfl⟩
    · exact rfl
    · exact rfl
    · exact absurd b2 a2
    · exact rfl
    · exact rfl

theorem eq_X11_weather_v1_X12_weather_v1 (r1 r2 : Int32) (h1 : r1 = 0) (h2 : r2 = 0) : r1 = r2 := by
  obtain rfl := h1
  obtain rfl := h2
  exact rfl

theorem eq_X11_sky_v1_X12_sky_v1 (p0 : Int32) (r1 r2 : Int32) (h1 : (p0 < 0 ∧ r1 = (-1)) ∨ (¬ p0 < 0 ∧ 399 < p0 ∧ r1 = (-1)) ∨ (¬ p0 < 0 ∧ ¬ 399 < p0 ∧ r1 = 0)) (h2 : (p0 < 0 ∧ r2 = (-1)) ∨ (¬ p0 < 0 ∧ 400 ≤ p0 ∧ r2 = (-1)) ∨ (¬ p0 < 0 ∧ ¬ 400 ≤ p0 ∧ r2 = 0)) : r1 = r2 := by
  rcases h1 with ⟨a0, rfl⟩ | ⟨a0, a1, rfl⟩ | ⟨a0, a1, rfl⟩
  · rcases h2 with ⟨b0, rfl⟩ | ⟨b0, b1, rfl⟩ | ⟨b0, b1, rfl⟩
    · exact rfl
    · exact rfl
    · exact absurd a0 b0
  · rcases h2 with ⟨b0, rfl⟩ | ⟨b0, b1, rfl⟩ | ⟨b0, b1, rfl⟩
    · exact rfl
    · exact rfl
    · exact (by have y0 := fa_nlt a0 (show (0 : Int32).toInt = 0 from by decide); have y1 := fb_lt a1 (show (399 : Int32).toInt = 399 from by decide); have y2 := fa_nlt b0 (show (0 : Int32).toInt = 0 from by decide); have y3 := fb_nle b1 (show (400 : Int32).toInt = 400 from by decide); omega : False).elim
  · rcases h2 with ⟨b0, rfl⟩ | ⟨b0, b1, rfl⟩ | ⟨b0, b1, rfl⟩
    · exact absurd b0 a0
    · exact (by have y0 := fa_nlt a0 (show (0 : Int32).toInt = 0 from by decide); have y1 := fb_nlt a1 (show (399 : Int32).toInt = 399 from by decide); have y2 := fa_nlt b0 (show (0 : Int32).toInt = 0 from by decide); have y3 := fb_le b1 (show (400 : Int32).toInt = 400 from by decide); omega : False).elim
    · exact rfl

theorem eq_X11_headline_v1_X12_headline_v1 (p0 : Int32) (p1 : Int32) (p2 : Int32) (r1 r2 : Int32) (h1 : (p0 < 0 ∧ r1 = 0) ∨ (¬ p0 < 0 ∧ 3 < p0 ∧ r1 = 0) ∨ (¬ p0 < 0 ∧ ¬ 3 < p0 ∧ p1 < 0 ∧ r1 = 0) ∨ (¬ p0 < 0 ∧ ¬ 3 < p0 ∧ ¬ p1 < 0 ∧ 399 < p1 ∧ r1 = 0) ∨ (¬ p0 < 0 ∧ ¬ 3 < p0 ∧ ¬ p1 < 0 ∧ ¬ 399 < p1 ∧ ¬ p1 < 0 ∧ p2 < 0 ∧ r1 = 0) ∨ (¬ p0 < 0 ∧ ¬ 3 < p0 ∧ ¬ p1 < 0 ∧ ¬ 399 < p1 ∧ ¬ p1 < 0 ∧ ¬ p2 < 0 ∧ 5 < p2 ∧ r1 = 0) ∨ (¬ p0 < 0 ∧ ¬ 3 < p0 ∧ ¬ p1 < 0 ∧ ¬ 399 < p1 ∧ ¬ p1 < 0 ∧ ¬ p2 < 0 ∧ ¬ 5 < p2 ∧ r1 = 1)) (h2 : (p0 < 0 ∧ r2 = 0) ∨ (¬ p0 < 0 ∧ 4 ≤ p0 ∧ r2 = 0) ∨ (¬ p0 < 0 ∧ ¬ 4 ≤ p0 ∧ p1 < 0 ∧ r2 = 0) ∨ (¬ p0 < 0 ∧ ¬ 4 ≤ p0 ∧ ¬ p1 < 0 ∧ 399 < p1 ∧ r2 = 0) ∨ (¬ p0 < 0 ∧ ¬ 4 ≤ p0 ∧ ¬ p1 < 0 ∧ ¬ 399 < p1 ∧ p2 < 0 ∧ r2 = 0) ∨ (¬ p0 < 0 ∧ ¬ 4 ≤ p0 ∧ ¬ p1 < 0 ∧ ¬ 399 < p1 ∧ ¬ p2 < 0 ∧ 5 < p2 ∧ r2 = 0) ∨ (¬ p0 < 0 ∧ ¬ 4 ≤ p0 ∧ ¬ p1 < 0 ∧ ¬ 399 < p1 ∧ ¬ p2 < 0 ∧ ¬ 5 < p2 ∧ r2 = 1)) : r1 = r2 := by
  rcases h1 with ⟨a0, rfl⟩ | ⟨a0, a1, rfl⟩ | ⟨a0, a1, a2, rfl⟩ | ⟨a0, a1, a2, a3, rfl⟩ | ⟨a0, a1, a2, a3, a4, a5, rfl⟩ | ⟨a0, a1, a2, a3, a4, a5, a6, rfl⟩ | ⟨a0, a1, a2, a3, a4, a5, a6, rfl⟩
  · rcases h2 with ⟨b0, rfl⟩ | ⟨b0, b1, rfl⟩ | ⟨b0, b1, b2, rfl⟩ | ⟨b0, b1, b2, b3, rfl⟩ | ⟨b0, b1, b2, b3, b4, rfl⟩ | ⟨b0, b1, b2, b3, b4, b5, rfl⟩ | ⟨b0, b1, b2, b3, b4, b5, rfl⟩
    · exact rfl
    · exact rfl
    · exact rfl
    · exact rfl
    · exact rfl
    · exact rfl
    · exact absurd a0 b0
  · rcases h2 with ⟨b0, rfl⟩ | ⟨b0, b1, rfl⟩ | ⟨b0, b1, b2, rfl⟩ | ⟨b0, b1, b2, b3, rfl⟩ | ⟨b0, b1, b2, b3, b4, rfl⟩ | ⟨b0, b1, b2, b3, b4, b5, rfl⟩ | ⟨b0, b1, b2, b3, b4, b5, rfl⟩
    · exact rfl
    · exact rfl
    · exact rfl
    · exact rfl
    · exact rfl
    · exact rfl
    · exact (by have y0 := fa_nlt a0 (show (0 : Int32).toInt = 0 from by decide); have y1 := fb_lt a1 (show (3 : Int32).toInt = 3 from by decide); have y2 := fa_nlt b0 (show (0 : Int32).toInt = 0 from by decide); have y3 := fb_nle b1 (show (4 : Int32).toInt = 4 from by decide); omega : False).elim
  · rcases h2 with ⟨b0, rfl⟩ | ⟨b0, b1, rfl⟩ | ⟨b0, b1, b2, rfl⟩ | ⟨b0, b1, b2, b3, rfl⟩ | ⟨b0, b1, b2, b3, b4, rfl⟩ | ⟨b0, b1, b2, b3, b4, b5, rfl⟩ | ⟨b0, b1, b2, b3, b4, b5, rfl⟩
    · exact rfl
    · exact rfl
    · exact rfl
    · exact rfl
    · exact rfl
    · exact rfl
    · exact absurd a2 b2
  · rcases h2 with ⟨b0, rfl⟩ | ⟨b0, b1, rfl⟩ | ⟨b0, b1, b2, rfl⟩ | ⟨b0, b1, b2, b3, rfl⟩ | ⟨b0, b1, b2, b3, b4, rfl⟩ | ⟨b0, b1, b2, b3, b4, b5, rfl⟩ | ⟨b0, b1, b2, b3, b4, b5, rfl⟩
    · exact rfl
    · exact rfl
    · exact rfl
    · exact rfl
    · exact rfl
    · exact rfl
    · exact absurd a3 b3
  · rcases h2 with ⟨b0, rfl⟩ | ⟨b0, b1, rfl⟩ | ⟨b0, b1, b2, rfl⟩ | ⟨b0, b1, b2, b3, rfl⟩ | ⟨b0, b1, b2, b3, b4, rfl⟩ | ⟨b0, b1, b2, b3, b4, b5, rfl⟩ | ⟨b0, b1, b2, b3, b4, b5, rfl⟩
    · exact rfl
    · exact rfl
    · exact rfl
    · exact rfl
    · exact rfl
    · exact rfl
    · exact absurd a5 b4
  · rcases h2 with ⟨b0, rfl⟩ | ⟨b0, b1, rfl⟩ | ⟨b0, b1, b2, rfl⟩ | ⟨b0, b1, b2, b3, rfl⟩ | ⟨b0, b1, b2, b3, b4, rfl⟩ | ⟨b0, b1, b2, b3, b4, b5, rfl⟩ | ⟨b0, b1, b2, b3, b4, b5, rfl⟩
    · exact rfl
    · exact rfl
    · exact rfl
    · exact rfl
    · exact rfl
    · exact rfl
    · exact absurd a6 b5
  · rcases h2 with ⟨b0, rfl⟩ | ⟨b0, b1, rfl⟩ | ⟨b0, b1, b2, rfl⟩ | ⟨b0, b1, b2, b3, rfl⟩ | ⟨b0, b1, b2, b3, b4, rfl⟩ | ⟨b0, b1, b2, b3, b4, b5, rfl⟩ | ⟨b0, b1, b2, b3, b4, b5, rfl⟩
    · exact absurd b0 a0
    · exact (by have y0 := fa_nlt a0 (show (0 : Int32).toInt = 0 from by decide); have y1 := fb_nlt a1 (show (3 : Int32).toInt = 3 from by decide); have y2 := fa_nlt b0 (show (0 : Int32).toInt = 0 from by decide); have y3 := fb_le b1 (show (4 : Int32).toInt = 4 from by decide); omega : False).elim
    · exact absurd b2 a2
    · exact absurd b3 a3
    · exact absurd b4 a5
    · exact absurd b5 a6
    · exact rfl

theorem eq_X11_table_v1_X12_table_v1 (p0 : Int32) (p1 : Int32) (p2 : Int32) (r1 r2 : Int32) (h1 : (p2 < 0 ∧ r1 = 0) ∨ (¬ p2 < 0 ∧ 300 < p2 ∧ r1 = 0) ∨ (¬ p2 < 0 ∧ ¬ 300 < p2 ∧ ¬ p0 = 0 ∧ ¬ p0 = 1 ∧ r1 = 0) ∨ (¬ p2 < 0 ∧ ¬ 300 < p2 ∧ ¬ p0 = 0 ∧ p0 = 1 ∧ p1 < 0 ∧ r1 = 0) ∨ (¬ p2 < 0 ∧ ¬ 300 < p2 ∧ ¬ p0 = 0 ∧ p0 = 1 ∧ ¬ p1 < 0 ∧ 5 < p1 ∧ r1 = 0) ∨ (¬ p2 < 0 ∧ ¬ 300 < p2 ∧ ¬ p0 = 0 ∧ p0 = 1 ∧ ¬ p1 < 0 ∧ ¬ 5 < p1 ∧ r1 = 1) ∨ (¬ p2 < 0 ∧ ¬ 300 < p2 ∧ p0 = 0 ∧ p1 < 0 ∧ ¬ p0 = 1 ∧ r1 = 0) ∨ (¬ p2 < 0 ∧ ¬ 300 < p2 ∧ p0 = 0 ∧ ¬ p1 < 0 ∧ 3 < p1 ∧ ¬ p0 = 1 ∧ r1 = 0) ∨ (¬ p2 < 0 ∧ ¬ 300 < p2 ∧ p0 = 0 ∧ ¬ p1 < 0 ∧ ¬ 3 < p1 ∧ r1 = 1)) (h2 : (p0 < 0 ∧ r2 = 0) ∨ (¬ p0 < 0 ∧ 1 < p0 ∧ r2 = 0) ∨ (¬ p0 < 0 ∧ ¬ 1 < p0 ∧ ¬ p0 = 0 ∧ p1 < 0 ∧ r2 = 0) ∨ (¬ p0 < 0 ∧ ¬ 1 < p0 ∧ ¬ p0 = 0 ∧ ¬ p1 < 0 ∧ 5 < p1 ∧ r2 = 0) ∨ (¬ p0 < 0 ∧ ¬ 1 < p0 ∧ ¬ p0 = 0 ∧ ¬ p1 < 0 ∧ ¬ 5 < p1 ∧ p2 < 0 ∧ r2 = 0) ∨ (¬ p0 < 0 ∧ ¬ 1 < p0 ∧ ¬ p0 = 0 ∧ ¬ p1 < 0 ∧ ¬ 5 < p1 ∧ ¬ p2 < 0 ∧ 300 < p2 ∧ r2 = 0) ∨ (¬ p0 < 0 ∧ ¬ 1 < p0 ∧ ¬ p0 = 0 ∧ ¬ p1 < 0 ∧ ¬ 5 < p1 ∧ ¬ p2 < 0 ∧ ¬ 300 < p2 ∧ ¬ p0 = 0 ∧ r2 = 1) ∨ (¬ p0 < 0 ∧ ¬ 1 < p0 ∧ p0 = 0 ∧ p1 < 0 ∧ r2 = 0) ∨ (¬ p0 < 0 ∧ ¬ 1 < p0 ∧ p0 = 0 ∧ ¬ p1 < 0 ∧ 3 < p1 ∧ r2 = 0) ∨ (¬ p0 < 0 ∧ ¬ 1 < p0 ∧ p0 = 0 ∧ ¬ p1 < 0 ∧ ¬ 3 < p1 ∧ p2 < 0 ∧ r2 = 0) ∨ (¬ p0 < 0 ∧ ¬ 1 < p0 ∧ p0 = 0 ∧ ¬ p1 < 0 ∧ ¬ 3 < p1 ∧ ¬ p2 < 0 ∧ 300 < p2 ∧ r2 = 0) ∨ (¬ p0 < 0 ∧ ¬ 1 < p0 ∧ p0 = 0 ∧ ¬ p1 < 0 ∧ ¬ 3 < p1 ∧ ¬ p2 < 0 ∧ ¬ 300 < p2 ∧ p0 = 0 ∧ r2 = 1)) : r1 = r2 := by
  rcases h1 with ⟨a0, rfl⟩ | ⟨a0, a1, rfl⟩ | ⟨a0, a1, a2, a3, rfl⟩ | ⟨a0, a1, a2, a3, a4, rfl⟩ | ⟨a0, a1, a2, a3, a4, a5, rfl⟩ | ⟨a0, a1, a2, a3, a4, a5, rfl⟩ | ⟨a0, a1, a2, a3, a4, rfl⟩ | ⟨a0, a1, a2, a3, a4, a5, rfl⟩ | ⟨a0, a1, a2, a3, a4, rfl⟩
  · rcases h2 with ⟨b0, rfl⟩ | ⟨b0, b1, rfl⟩ | ⟨b0, b1, b2, b3, rfl⟩ | ⟨b0, b1, b2, b3, b4, rfl⟩ | ⟨b0, b1, b2, b3, b4, b5, rfl⟩ | ⟨b0, b1, b2, b3, b4, b5, b6, rfl⟩ | ⟨b0, b1, b2, b3, b4, b5, b6, b7, rfl⟩ | ⟨b0, b1, b2, b3, rfl⟩ | ⟨b0, b1, b2, b3, b4, rfl⟩ | ⟨b0, b1, b2, b3, b4, b5, rfl⟩ | ⟨b0, b1, b2, b3, b4, b5, b6, rfl⟩ | ⟨b0, b1, b2, b3, b4, b5, b6, b7, rfl⟩
    · exact rfl
    · exact rfl
    · exact rfl
    · exact rfl
    · exact rfl
    · exact rfl
    · exact absurd a0 b5
    · exact rfl
    · exact rfl
    · exact rfl
    · exact rfl
    · exact absurd a0 b5
  · rcases h2 with ⟨b0, rfl⟩ | ⟨b0, b1, rfl⟩ | ⟨b0, b1, b2, b3, rfl⟩ | ⟨b0, b1, b2, b3, b4, rfl⟩ | ⟨b0, b1, b2, b3, b4, b5, rfl⟩ | ⟨b0, b1, b2, b3, b4, b5, b6, rfl⟩ | ⟨b0, b1, b2, b3, b4, b5, b6, b7, rfl⟩ | ⟨b0, b1, b2, b3, rfl⟩ | ⟨b0, b1, b2, b3, b4, rfl⟩ | ⟨b0, b1, b2, b3, b4, b5, rfl⟩ | ⟨b0, b1, b2, b3, b4, b5, b6, rfl⟩ | ⟨b0, b1, b2, b3, b4, b5, b6, b7, rfl⟩
    · exact rfl
    · exact rfl
    · exact rfl
    · exact rfl
    · exact rfl
    · exact rfl
    · exact absurd a1 b6
    · exact rfl
    · exact rfl
    · exact rfl
    · exact rfl
    · exact absurd a1 b6
  · rcases h2 with ⟨b0, rfl⟩ | ⟨b0, b1, rfl⟩ | ⟨b0, b1, b2, b3, rfl⟩ | ⟨b0, b1, b2, b3, b4, rfl⟩ | ⟨b0, b1, b2, b3, b4, b5, rfl⟩ | ⟨b0, b1, b2, b3, b4, b5, b6, rfl⟩ | ⟨b0, b1, b2, b3, b4, b5, b6, b7, rfl⟩ | ⟨b0, b1, b2, b3, rfl⟩ | ⟨b0, b1, b2, b3, b4, rfl⟩ | ⟨b0, b1, b2, b3, b4, b5, rfl⟩ | ⟨b0, b1, b2, b3, b4, b5, b6, rfl⟩ | ⟨b0, b1, b2, b3, b4, b5, b6, b7, rfl⟩
    · exact rfl
    · exact rfl
    · exact rfl
    · exact rfl
    · exact rfl
    · exact rfl
    · exact (by have y0 := fa_ne a2 (show (0 : Int32).toInt = 0 from by decide); have y1 := fa_ne a3 (show (1 : Int32).toInt = 1 from by decide); have y2 := fa_nlt b0 (show (0 : Int32).toInt = 0 from by decide); have y3 := fb_nlt b1 (show (1 : Int32).toInt = 1 from by decide); have y4 := fa_ne b2 (show (0 : Int32).toInt = 0 from by decide); have y5 := fa_ne b7 (show (0 : Int32).toInt = 0 from by decide); omega : False).elim
    · exact rfl
    · exact rfl
    · exact rfl
    · exact rfl
    · exact absurd b2 a2
  · rcases h2 with ⟨b0, rfl⟩ | ⟨b0, b1, rfl⟩ | ⟨b0, b1, b2, b3, rfl⟩ | ⟨b0, b1, b2, b3, b4, rfl⟩ | ⟨b0, b1, b2, b3, b4, b5, rfl⟩ | ⟨b0, b1, b2, b3, b4, b5, b6, rfl⟩ | ⟨b0, b1, b2, b3, b4, b5, b6, b7, rfl⟩ | ⟨b0, b1, b2, b3, rfl⟩ | ⟨b0, b1, b2, b3, b4, rfl⟩ | ⟨b0, b1, b2, b3, b4, b5, rfl⟩ | ⟨b0, b1, b2, b3, b4, b5, b6, rfl⟩ | ⟨b0, b1, b2, b3, b4, b5, b6, b7, rfl⟩
    · exact rfl
    · exact rfl
    · exact rfl
    · exact rfl
    · exact rfl
    · exact rfl
    · exact absurd a4 b3
    · exact rfl
    · exact rfl
    · exact rfl
    · exact rfl
    · exact absurd a4 b3
  · rcases h2 with ⟨b0, rfl⟩ | ⟨b0, b1, rfl⟩ | ⟨b0, b1, b2, b3, rfl⟩ | ⟨b0, b1, b2, b3, b4, rfl⟩ | ⟨b0, b1, b2, b3, b4, b5, rfl⟩ | ⟨b0, b1, b2, b3, b4, b5, b6, rfl⟩ | ⟨b0, b1, b2, b3, b4, b5, b6, b7, rfl⟩ | ⟨b0, b1, b2, b3, rfl⟩ | ⟨b0, b1, b2, b3, b4, rfl⟩ | ⟨b0, b1, b2, b3, b4, b5, rfl⟩ | ⟨b0, b1, b2, b3, b4, b5, b6, rfl⟩ | ⟨b0, b1, b2, b3, b4, b5, b6, b7, rfl⟩
    · exact rfl
    · exact rfl
    · exact rfl
    · exact rfl
    · exact rfl
    · exact rfl
    · exact absurd a5 b4
    · exact rfl
    · exact rfl
    · exact rfl
    · exact rfl
    · exact absurd b2 a2
  · rcases h2 with ⟨b0, rfl⟩ | ⟨b0, b1, rfl⟩ | ⟨b0, b1, b2, b3, rfl⟩ | ⟨b0, b1, b2, b3, b4, rfl⟩ | ⟨b0, b1, b2, b3, b4, b5, rfl⟩ | ⟨b0, b1, b2, b3, b4, b5, b6, rfl⟩ | ⟨b0, b1, b2, b3, b4, b5, b6, b7, rfl⟩ | ⟨b0, b1, b2, b3, rfl⟩ | ⟨b0, b1, b2, b3, b4, rfl⟩ | ⟨b0, b1, b2, b3, b4, b5, rfl⟩ | ⟨b0, b1, b2, b3, b4, b5, b6, rfl⟩ | ⟨b0, b1, b2, b3, b4, b5, b6, b7, rfl⟩
    · exact (by have y0 := fa_ne a2 (show (0 : Int32).toInt = 0 from by decide); have y1 := fa_eq a3 (show (1 : Int32).toInt = 1 from by decide); have y2 := fa_lt b0 (show (0 : Int32).toInt = 0 from by decide); omega : False).elim
    · exact (by have y0 := fa_ne a2 (show (0 : Int32).toInt = 0 from by decide); have y1 := fa_eq a3 (show (1 : Int32).toInt = 1 from by decide); have y2 := fa_nlt b0 (show (0 : Int32).toInt = 0 from by decide); have y3 := fb_lt b1 (show (1 : Int32).toInt = 1 from by decide); omega : False).elim
    · exact absurd b3 a4
    · exact absurd b4 a5
    · exact absurd b5 a0
    · exact absurd b6 a1
    · exact rfl
    · exact absurd b2 a2
    · exact absurd b2 a2
    · exact absurd b2 a2
    · exact absurd b2 a2
    · exact rfl
  · rcases h2 with ⟨b0, rfl⟩ | ⟨b0, b1, rfl⟩ | ⟨b0, b1, b2, b3, rfl⟩ | ⟨b0, b1, b2, b3, b4, rfl⟩ | ⟨b0, b1, b2, b3, b4, b5, rfl⟩ | ⟨b0, b1, b2, b3, b4, b5, b6, rfl⟩ | ⟨b0, b1, b2, b3, b4, b5, b6, b7, rfl⟩ | ⟨b0, b1, b2, b3, rfl⟩ | ⟨b0, b1, b2, b3, b4, rfl⟩ | ⟨b0, b1, b2, b3, b4, b5, rfl⟩ | ⟨b0, b1, b2, b3, b4, b5, b6, rfl⟩ | ⟨b0, b1, b2, b3, b4, b5, b6, b7, rfl⟩
    · exact rfl
    · exact rfl
    · exact rfl
    · exact rfl
    · exact rfl
    · exact rfl
    · exact absurd a2 b2
    · exact rfl
    · exact rfl
    · exact rfl
    · exact rfl
    · exact absurd a3 b3
  · rcases h2 with ⟨b0, rfl⟩ | ⟨b0, b1, rfl⟩ | ⟨b0, b1, b2, b3, rfl⟩ | ⟨b0, b1, b2, b3, b4, rfl⟩ | ⟨b0, b1, b2, b3, b4, b5, rfl⟩ | ⟨b0, b1, b2, b3, b4, b5, b6, rfl⟩ | ⟨b0, b1, b2, b3, b4, b5, b6, b7, rfl⟩ | ⟨b0, b1, b2, b3, rfl⟩ | ⟨b0, b1, b2, b3, b4, rfl⟩ | ⟨b0, b1, b2, b3, b4, b5, rfl⟩ | ⟨b0, b1, b2, b3, b4, b5, b6, rfl⟩ | ⟨b0, b1, b2, b3, b4, b5, b6, b7, rfl⟩
    · exact rfl
    · exact rfl
    · exact rfl
    · exact rfl
    · exact rfl
    · exact rfl
    · exact absurd a2 b2
    · exact rfl
    · exact rfl
    · exact rfl
    · exact rfl
    · exact absurd a4 b4
  · rcases h2 with ⟨b0, rfl⟩ | ⟨b0, b1, rfl⟩ | ⟨b0, b1, b2, b3, rfl⟩ | ⟨b0, b1, b2, b3, b4, rfl⟩ | ⟨b0, b1, b2, b3, b4, b5, rfl⟩ | ⟨b0, b1, b2, b3, b4, b5, b6, rfl⟩ | ⟨b0, b1, b2, b3, b4, b5, b6, b7, rfl⟩ | ⟨b0, b1, b2, b3, rfl⟩ | ⟨b0, b1, b2, b3, b4, rfl⟩ | ⟨b0, b1, b2, b3, b4, b5, rfl⟩ | ⟨b0, b1, b2, b3, b4, b5, b6, rfl⟩ | ⟨b0, b1, b2, b3, b4, b5, b6, b7, rfl⟩
    · exact (by have y0 := fa_eq a2 (show (0 : Int32).toInt = 0 from by decide); have y1 := fa_lt b0 (show (0 : Int32).toInt = 0 from by decide); omega : False).elim
    · exact (by have y0 := fa_eq a2 (show (0 : Int32).toInt = 0 from by decide); have y1 := fa_nlt b0 (show (0 : Int32).toInt = 0 from by decide); have y2 := fb_lt b1 (show (1 : Int32).toInt = 1 from by decide); omega : False).elim
    · exact absurd a2 b2
    · exact absurd a2 b2
    · exact absurd a2 b2
    · exact absurd a2 b2
    · exact rfl
    · exact absurd b3 a3
    · exact absurd b4 a4
    · exact absurd b5 a0
    · exact absurd b6 a1
    · exact rfl

theorem eq_X11_want_v1_X12_want_v1 (p0 : Int32) (p1 : Int32) (p2 : Int32) (r1 r2 : Int32) (h1 : (p0 < 0 ∧ r1 = 0) ∨ (¬ p0 < 0 ∧ 9 < p0 ∧ r1 = 0) ∨ (¬ p0 < 0 ∧ ¬ 9 < p0 ∧ p1 < 0 ∧ r1 = 0) ∨ (¬ p0 < 0 ∧ ¬ 9 < p0 ∧ ¬ p1 < 0 ∧ 3 < p1 ∧ r1 = 0) ∨ (¬ p0 < 0 ∧ ¬ 9 < p0 ∧ ¬ p1 < 0 ∧ ¬ 3 < p1 ∧ p2 < 0 ∧ r1 = 0) ∨ (¬ p0 < 0 ∧ ¬ 9 < p0 ∧ ¬ p1 < 0 ∧ ¬ 3 < p1 ∧ ¬ p2 < 0 ∧ 400 < p2 ∧ r1 = 0) ∨ (¬ p0 < 0 ∧ ¬ 9 < p0 ∧ ¬ p1 < 0 ∧ ¬ 3 < p1 ∧ ¬ p2 < 0 ∧ ¬ 400 < p2 ∧ r1 = 1)) (h2 : (p0 < 0 ∧ r2 = 0) ∨ (¬ p0 < 0 ∧ 10 ≤ p0 ∧ r2 = 0) ∨ (¬ p0 < 0 ∧ ¬ 10 ≤ p0 ∧ p1 < 0 ∧ r2 = 0) ∨ (¬ p0 < 0 ∧ ¬ 10 ≤ p0 ∧ ¬ p1 < 0 ∧ 4 ≤ p1 ∧ r2 = 0) ∨ (¬ p0 < 0 ∧ ¬ 10 ≤ p0 ∧ ¬ p1 < 0 ∧ ¬ 4 ≤ p1 ∧ p2 < 0 ∧ r2 = 0) ∨ (¬ p0 < 0 ∧ ¬ 10 ≤ p0 ∧ ¬ p1 < 0 ∧ ¬ 4 ≤ p1 ∧ ¬ p2 < 0 ∧ 400 < p2 ∧ r2 = 0) ∨ (¬ p0 < 0 ∧ ¬ 10 ≤ p0 ∧ ¬ p1 < 0 ∧ ¬ 4 ≤ p1 ∧ ¬ p2 < 0 ∧ ¬ 400 < p2 ∧ r2 = 1)) : r1 = r2 := by
  rcases h1 with ⟨a0, rfl⟩ | ⟨a0, a1, rfl⟩ | ⟨a0, a1, a2, rfl⟩ | ⟨a0, a1, a2, a3, rfl⟩ | ⟨a0, a1, a2, a3, a4, rfl⟩ | ⟨a0, a1, a2, a3, a4, a5, rfl⟩ | ⟨a0, a1, a2, a3, a4, a5, rfl⟩
  · rcases h2 with ⟨b0, rfl⟩ | ⟨b0, b1, rfl⟩ | ⟨b0, b1, b2, rfl⟩ | ⟨b0, b1, b2, b3, rfl⟩ | ⟨b0, b1, b2, b3, b4, rfl⟩ | ⟨b0, b1, b2, b3, b4, b5, rfl⟩ | ⟨b0, b1, b2, b3, b4, b5, rfl⟩
    · exact rfl
    · exact rfl
    · exact rfl
    · exact rfl
    · exact rfl
    · exact rfl
    · exact absurd a0 b0
  · rcases h2 with ⟨b0, rfl⟩ | ⟨b0, b1, rfl⟩ | ⟨b0, b1, b2, rfl⟩ | ⟨b0, b1, b2, b3, rfl⟩ | ⟨b0, b1, b2, b3, b4, rfl⟩ | ⟨b0, b1, b2, b3, b4, b5, rfl⟩ | ⟨b0, b1, b2, b3, b4, b5, rfl⟩
    · exact rfl
    · exact rfl
    · exact rfl
    · exact rfl
    · exact rfl
    · exact rfl
    · exact (by have y0 := fa_nlt a0 (show (0 : Int32).toInt = 0 from by decide); have y1 := fb_lt a1 (show (9 : Int32).toInt = 9 from by decide); have y2 := fa_nlt b0 (show (0 : Int32).toInt = 0 from by decide); have y3 := fb_nle b1 (show (10 : Int32).toInt = 10 from by decide); omega : False).elim
  · rcases h2 with ⟨b0, rfl⟩ | ⟨b0, b1, rfl⟩ | ⟨b0, b1, b2, rfl⟩ | ⟨b0, b1, b2, b3, rfl⟩ | ⟨b0, b1, b2, b3, b4, rfl⟩ | ⟨b0, b1, b2, b3, b4, b5, rfl⟩ | ⟨b0, b1, b2, b3, b4, b5, rfl⟩
    · exact rfl
    · exact rfl
    · exact rfl
    · exact rfl
    · exact rfl
    · exact rfl
    · exact absurd a2 b2
  · rcases h2 with ⟨b0, rfl⟩ | ⟨b0, b1, rfl⟩ | ⟨b0, b1, b2, rfl⟩ | ⟨b0, b1, b2, b3, rfl⟩ | ⟨b0, b1, b2, b3, b4, rfl⟩ | ⟨b0, b1, b2, b3, b4, b5, rfl⟩ | ⟨b0, b1, b2, b3, b4, b5, rfl⟩
    · exact rfl
    · exact rfl
    · exact rfl
    · exact rfl
    · exact rfl
    · exact rfl
    · exact (by have y0 := fa_nlt a2 (show (0 : Int32).toInt = 0 from by decide); have y1 := fb_lt a3 (show (3 : Int32).toInt = 3 from by decide); have y2 := fa_nlt b2 (show (0 : Int32).toInt = 0 from by decide); have y3 := fb_nle b3 (show (4 : Int32).toInt = 4 from by decide); omega : False).elim
  · rcases h2 with ⟨b0, rfl⟩ | ⟨b0, b1, rfl⟩ | ⟨b0, b1, b2, rfl⟩ | ⟨b0, b1, b2, b3, rfl⟩ | ⟨b0, b1, b2, b3, b4, rfl⟩ | ⟨b0, b1, b2, b3, b4, b5, rfl⟩ | ⟨b0, b1, b2, b3, b4, b5, rfl⟩
    · exact rfl
    · exact rfl
    · exact rfl
    · exact rfl
    · exact rfl
    · exact rfl
    · exact absurd a4 b4
  · rcases h2 with ⟨b0, rfl⟩ | ⟨b0, b1, rfl⟩ | ⟨b0, b1, b2, rfl⟩ | ⟨b0, b1, b2, b3, rfl⟩ | ⟨b0, b1, b2, b3, b4, rfl⟩ | ⟨b0, b1, b2, b3, b4, b5, rfl⟩ | ⟨b0, b1, b2, b3, b4, b5, rfl⟩
    · exact rfl
    · exact rfl
    · exact rfl
    · exact rfl
    · exact rfl
    · exact rfl
    · exact absurd a5 b5
  · rcases h2 with ⟨b0, rfl⟩ | ⟨b0, b1, rfl⟩ | ⟨b0, b1, b2, rfl⟩ | ⟨b0, b1, b2, b3, rfl⟩ | ⟨b0, b1, b2, b3, b4, rfl⟩ | ⟨b0, b1, b2, b3, b4, b5, rfl⟩ | ⟨b0, b1, b2, b3, b4, b5, rfl⟩
    · exact absurd b0 a0
    · exact (by have y0 := fa_nlt a0 (show (0 : Int32).toInt = 0 from by decide); have y1 := fb_nlt a1 (show (9 : Int32).toInt = 9 from by decide); have y2 := fa_nlt b0 (show (0 : Int32).toInt = 0 from by decide); have y3 := fb_le b1 (show (10 : Int32).toInt = 10 from by decide); omega : False).elim
    · exact absurd b2 a2
    · exact (by have y0 := fa_nlt a2 (show (0 : Int32).toInt = 0 from by decide); have y1 := fb_nlt a3 (show (3 : Int32).toInt = 3 from by decide); have y2 := fa_nlt b2 (show (0 : Int32).toInt = 0 from by decide); have y3 := fb_le b3 (show (4 : Int32).toInt = 4 from by decide); omega : False).elim
    · exact absurd b4 a4
    · exact absurd b5 a5
    · exact rfl

theorem eq_X11_asked_v1_X12_asked_v1 (p0 : Int32) (p1 : Int32) (p2 : Int32) (p3 : Int32) (r1 r2 : Int32) (h1 : (p0 < 0 ∧ r1 = (-1)) ∨ (¬ p0 < 0 ∧ 9 < p0 ∧ r1 = (-1)) ∨ (¬ p0 < 0 ∧ ¬ 9 < p0 ∧ p1 < 0 ∧ r1 = (-1)) ∨ (¬ p0 < 0 ∧ ¬ 9 < p0 ∧ ¬ p1 < 0 ∧ 3 < p1 ∧ r1 = (-1)) ∨ (¬ p0 < 0 ∧ ¬ 9 < p0 ∧ ¬ p1 < 0 ∧ ¬ 3 < p1 ∧ p2 < 0 ∧ r1 = (-1)) ∨ (¬ p0 < 0 ∧ ¬ 9 < p0 ∧ ¬ p1 < 0 ∧ ¬ 3 < p1 ∧ ¬ p2 < 0 ∧ 3 < p2 ∧ r1 = (-1)) ∨ (¬ p0 < 0 ∧ ¬ 9 < p0 ∧ ¬ p1 < 0 ∧ ¬ 3 < p1 ∧ ¬ p2 < 0 ∧ ¬ 3 < p2 ∧ p3 < 0 ∧ r1 = (-1)) ∨ (¬ p0 < 0 ∧ ¬ 9 < p0 ∧ ¬ p1 < 0 ∧ ¬ 3 < p1 ∧ ¬ p2 < 0 ∧ ¬ 3 < p2 ∧ ¬ p3 < 0 ∧ 5 < p3 ∧ r1 = (-1)) ∨ (¬ p0 < 0 ∧ ¬ 9 < p0 ∧ ¬ p1 < 0 ∧ ¬ 3 < p1 ∧ ¬ p2 < 0 ∧ ¬ 3 < p2 ∧ ¬ p3 < 0 ∧ ¬ 5 < p3 ∧ r1 = 0)) (h2 : (p0 < 0 ∧ r2 = (-1)) ∨ (¬ p0 < 0 ∧ 10 ≤ p0 ∧ r2 = (-1)) ∨ (¬ p0 < 0 ∧ ¬ 10 ≤ p0 ∧ p1 < 0 ∧ r2 = (-1)) ∨ (¬ p0 < 0 ∧ ¬ 10 ≤ p0 ∧ ¬ p1 < 0 ∧ 4 ≤ p1 ∧ r2 = (-1)) ∨ (¬ p0 < 0 ∧ ¬ 10 ≤ p0 ∧ ¬ p1 < 0 ∧ ¬ 4 ≤ p1 ∧ p2 < 0 ∧ r2 = (-1)) ∨ (¬ p0 < 0 ∧ ¬ 10 ≤ p0 ∧ ¬ p1 < 0 ∧ ¬ 4 ≤ p1 ∧ ¬ p2 < 0 ∧ 3 < p2 ∧ r2 = (-1)) ∨ (¬ p0 < 0 ∧ ¬ 10 ≤ p0 ∧ ¬ p1 < 0 ∧ ¬ 4 ≤ p1 ∧ ¬ p2 < 0 ∧ ¬ 3 < p2 ∧ p3 < 0 ∧ r2 = (-1)) ∨ (¬ p0 < 0 ∧ ¬ 10 ≤ p0 ∧ ¬ p1 < 0 ∧ ¬ 4 ≤ p1 ∧ ¬ p2 < 0 ∧ ¬ 3 < p2 ∧ ¬ p3 < 0 ∧ 5 < p3 ∧ r2 = (-1)) ∨ (¬ p0 < 0 ∧ ¬ 10 ≤ p0 ∧ ¬ p1 < 0 ∧ ¬ 4 ≤ p1 ∧ ¬ p2 < 0 ∧ ¬ 3 < p2 ∧ ¬ p3 < 0 ∧ ¬ 5 < p3 ∧ r2 = 0)) : r1 = r2 := by
  rcases h1 with ⟨a0, rfl⟩ | ⟨a0, a1, rfl⟩ | ⟨a0, a1, a2, rfl⟩ | ⟨a0, a1, a2, a3, rfl⟩ | ⟨a0, a1, a2, a3, a4, rfl⟩ | ⟨a0, a1, a2, a3, a4, a5, rfl⟩ | ⟨a0, a1, a2, a3, a4, a5, a6, rfl⟩ | ⟨a0, a1, a2, a3, a4, a5, a6, a7, rfl⟩ | ⟨a0, a1, a2, a3, a4, a5, a6, a7, rfl⟩
  · rcases h2 with ⟨b0, rfl⟩ | ⟨b0, b1, rfl⟩ | ⟨b0, b1, b2, rfl⟩ | ⟨b0, b1, b2, b3, rfl⟩ | ⟨b0, b1, b2, b3, b4, rfl⟩ | ⟨b0, b1, b2, b3, b4, b5, rfl⟩ | ⟨b0, b1, b2, b3, b4, b5, b6, rfl⟩ | ⟨b0, b1, b2, b3, b4, b5, b6, b7, rfl⟩ | ⟨b0, b1, b2, b3, b4, b5, b6, b7, rfl⟩
    · exact rfl
    · exact rfl
    · exact rfl
    · exact rfl
    · exact rfl
    · exact rfl
    · exact rfl
    · exact rfl
    · exact absurd a0 b0
  · rcases h2 with ⟨b0, rfl⟩ | ⟨b0, b1, rfl⟩ | ⟨b0, b1, b2, rfl⟩ | ⟨b0, b1, b2, b3, rfl⟩ | ⟨b0, b1, b2, b3, b4, rfl⟩ | ⟨b0, b1, b2, b3, b4, b5, rfl⟩ | ⟨b0, b1, b2, b3, b4, b5, b6, rfl⟩ | ⟨b0, b1, b2, b3, b4, b5, b6, b7, rfl⟩ | ⟨b0, b1, b2, b3, b4, b5, b6, b7, rfl⟩
    · exact rfl
    · exact rfl
    · exact rfl
    · exact rfl
    · exact rfl
    · exact rfl
    · exact rfl
    · exact rfl
    · exact (by have y0 := fa_nlt a0 (show (0 : Int32).toInt = 0 from by decide); have y1 := fb_lt a1 (show (9 : Int32).toInt = 9 from by decide); have y2 := fa_nlt b0 (show (0 : Int32).toInt = 0 from by decide); have y3 := fb_nle b1 (show (10 : Int32).toInt = 10 from by decide); omega : False).elim
  · rcases h2 with ⟨b0, rfl⟩ | ⟨b0, b1, rfl⟩ | ⟨b0, b1, b2, rfl⟩ | ⟨b0, b1, b2, b3, rfl⟩ | ⟨b0, b1, b2, b3, b4, rfl⟩ | ⟨b0, b1, b2, b3, b4, b5, rfl⟩ | ⟨b0, b1, b2, b3, b4, b5, b6, rfl⟩ | ⟨b0, b1, b2, b3, b4, b5, b6, b7, rfl⟩ | ⟨b0, b1, b2, b3, b4, b5, b6, b7, rfl⟩
    · exact rfl
    · exact rfl
    · exact rfl
    · exact rfl
    · exact rfl
    · exact rfl
    · exact rfl
    · exact rfl
    · exact absurd a2 b2
  · rcases h2 with ⟨b0, rfl⟩ | ⟨b0, b1, rfl⟩ | ⟨b0, b1, b2, rfl⟩ | ⟨b0, b1, b2, b3, rfl⟩ | ⟨b0, b1, b2, b3, b4, rfl⟩ | ⟨b0, b1, b2, b3, b4, b5, rfl⟩ | ⟨b0, b1, b2, b3, b4, b5, b6, rfl⟩ | ⟨b0, b1, b2, b3, b4, b5, b6, b7, rfl⟩ | ⟨b0, b1, b2, b3, b4, b5, b6, b7, rfl⟩
    · exact rfl
    · exact rfl
    · exact rfl
    · exact rfl
    · exact rfl
    · exact rfl
    · exact rfl
    · exact rfl
    · exact (by have y0 := fa_nlt a2 (show (0 : Int32).toInt = 0 from by decide); have y1 := fb_lt a3 (show (3 : Int32).toInt = 3 from by decide); have y2 := fa_nlt b2 (show (0 : Int32).toInt = 0 from by decide); have y3 := fb_nle b3 (show (4 : Int32).toInt = 4 from by decide); omega : False).elim
  · rcases h2 with ⟨b0, rfl⟩ | ⟨b0, b1, rfl⟩ | ⟨b0, b1, b2, rfl⟩ | ⟨b0, b1, b2, b3, rfl⟩ | ⟨b0, b1, b2, b3, b4, rfl⟩ | ⟨b0, b1, b2, b3, b4, b5, rfl⟩ | ⟨b0, b1, b2, b3, b4, b5, b6, rfl⟩ | ⟨b0, b1, b2, b3, b4, b5, b6, b7, rfl⟩ | ⟨b0, b1, b2, b3, b4, b5, b6, b7, rfl⟩
    · exact rfl
    · exact rfl
    · exact rfl
    · exact rfl
    · exact rfl
    · exact rfl
    · exact rfl
    · exact rfl
    · exact absurd a4 b4
  · rcases h2 with ⟨b0, rfl⟩ | ⟨b0, b1, rfl⟩ | ⟨b0, b1, b2, rfl⟩ | ⟨b0, b1, b2, b3, rfl⟩ | ⟨b0, b1, b2, b3, b4, rfl⟩ | ⟨b0, b1, b2, b3, b4, b5, rfl⟩ | ⟨b0, b1, b2, b3, b4, b5, b6, rfl⟩ | ⟨b0, b1, b2, b3, b4, b5, b6, b7, rfl⟩ | ⟨b0, b1, b2, b3, b4, b5, b6, b7, rfl⟩
    · exact rfl
    · exact rfl
    · exact rfl
    · exact rfl
    · exact rfl
    · exact rfl
    · exact rfl
    · exact rfl
    · exact absurd a5 b5
  · rcases h2 with ⟨b0, rfl⟩ | ⟨b0, b1, rfl⟩ | ⟨b0, b1, b2, rfl⟩ | ⟨b0, b1, b2, b3, rfl⟩ | ⟨b0, b1, b2, b3, b4, rfl⟩ | ⟨b0, b1, b2, b3, b4, b5, rfl⟩ | ⟨b0, b1, b2, b3, b4, b5, b6, rfl⟩ | ⟨b0, b1, b2, b3, b4, b5, b6, b7, rfl⟩ | ⟨b0, b1, b2, b3, b4, b5, b6, b7, rfl⟩
    · exact rfl
    · exact rfl
    · exact rfl
    · exact rfl
    · exact rfl
    · exact rfl
    · exact rfl
    · exact rfl
    · exact absurd a6 b6
  · rcases h2 with ⟨b0, rfl⟩ | ⟨b0, b1, rfl⟩ | ⟨b0, b1, b2, rfl⟩ | ⟨b0, b1, b2, b3, rfl⟩ | ⟨b0, b1, b2, b3, b4, rfl⟩ | ⟨b0, b1, b2, b3, b4, b5, rfl⟩ | ⟨b0, b1, b2, b3, b4, b5, b6, rfl⟩ | ⟨b0, b1, b2, b3, b4, b5, b6, b7, rfl⟩ | ⟨b0, b1, b2, b3, b4, b5, b6, b7, rfl⟩
    · exact rfl
    · exact rfl
    · exact rfl
    · exact rfl
    · exact rfl
    · exact rfl
    · exact rfl
    · exact rfl
    · exact absurd a7 b7
  · rcases h2 with ⟨b0, rfl⟩ | ⟨b0, b1, rfl⟩ | ⟨b0, b1, b2, rfl⟩ | ⟨b0, b1, b2, b3, rfl⟩ | ⟨b0, b1, b2, b3, b4, rfl⟩ | ⟨b0, b1, b2, b3, b4, b5, rfl⟩ | ⟨b0, b1, b2, b3, b4, b5, b6, rfl⟩ | ⟨b0, b1, b2, b3, b4, b5, b6, b7, rfl⟩ | ⟨b0, b1, b2, b3, b4, b5, b6, b7, rfl⟩
    · exact absurd b0 a0
    · exact (by have y0 := fa_nlt a0 (show (0 : Int32).toInt = 0 from by decide); have y1 := fb_nlt a1 (show (9 : Int32).toInt = 9 from by decide); have y2 := fa_nlt b0 (show (0 : Int32).toInt = 0 from by decide); have y3 := fb_le b1 (show (10 : Int32).toInt = 10 from by decide); omega : False).elim
    · exact absurd b2 a2
    · exact (by have y0 := fa_nlt a2 (show (0 : Int32).toInt = 0 from by decide); have y1 := fb_nlt a3 (show (3 : Int32).toInt = 3 from by decide); have y2 := fa_nlt b2 (show (0 : Int32).toInt = 0 from by decide); have y3 := fb_le b3 (show (4 : Int32).toInt = 4 from by decide); omega : False).elim
    · exact absurd b4 a4
    · exact absurd b5 a5
    · exact absurd b6 a6
    · exact absurd b7 a7
    · exact rfl

theorem eq_X11_minutes_v1_X12_minutes_v1 (p0 : Int32) (p1 : Int32) (p2 : Int32) (r1 r2 : Int32) (h1 : (p0 < 0 ∧ r1 = 0) ∨ (¬ p0 < 0 ∧ 9 < p0 ∧ r1 = 0) ∨ (¬ p0 < 0 ∧ ¬ 9 < p0 ∧ p1 < 0 ∧ r1 = 0) ∨ (¬ p0 < 0 ∧ ¬ 9 < p0 ∧ ¬ p1 < 0 ∧ 9 < p1 ∧ r1 = 0) ∨ (¬ p0 < 0 ∧ ¬ 9 < p0 ∧ ¬ p1 < 0 ∧ ¬ 9 < p1 ∧ p0 = p1 ∧ r1 = 0) ∨ (¬ p0 < 0 ∧ ¬ 9 < p0 ∧ ¬ p1 < 0 ∧ ¬ 9 < p1 ∧ ¬ p0 = p1 ∧ p2 < 1 ∧ r1 = 0) ∨ (¬ p0 < 0 ∧ ¬ 9 < p0 ∧ ¬ p1 < 0 ∧ ¬ 9 < p1 ∧ ¬ p0 = p1 ∧ ¬ p2 < 1 ∧ 200 < p2 ∧ r1 = 0) ∨ (¬ p0 < 0 ∧ ¬ 9 < p0 ∧ ¬ p1 < 0 ∧ ¬ 9 < p1 ∧ ¬ p0 = p1 ∧ ¬ p2 < 1 ∧ ¬ 200 < p2 ∧ r1 = 1)) (h2 : (p0 < 0 ∧ r2 = 0) ∨ (¬ p0 < 0 ∧ 10 ≤ p0 ∧ r2 = 0) ∨ (¬ p0 < 0 ∧ ¬ 10 ≤ p0 ∧ p1 < 0 ∧ r2 = 0) ∨ (¬ p0 < 0 ∧ ¬ 10 ≤ p0 ∧ ¬ p1 < 0 ∧ 10 ≤ p1 ∧ r2 = 0) ∨ (¬ p0 < 0 ∧ ¬ 10 ≤ p0 ∧ ¬ p1 < 0 ∧ ¬ 10 ≤ p1 ∧ p0 = p1 ∧ r2 = 0) ∨ (¬ p0 < 0 ∧ ¬ 10 ≤ p0 ∧ ¬ p1 < 0 ∧ ¬ 10 ≤ p1 ∧ ¬ p0 = p1 ∧ p2 < 1 ∧ r2 = 0) ∨ (¬ p0 < 0 ∧ ¬ 10 ≤ p0 ∧ ¬ p1 < 0 ∧ ¬ 10 ≤ p1 ∧ ¬ p0 = p1 ∧ ¬ p2 < 1 ∧ 200 < p2 ∧ r2 = 0) ∨ (¬ p0 < 0 ∧ ¬ 10 ≤ p0 ∧ ¬ p1 < 0 ∧ ¬ 10 ≤ p1 ∧ ¬ p0 = p1 ∧ ¬ p2 < 1 ∧ ¬ 200 < p2 ∧ r2 = 1)) : r1 = r2 := by
  rcases h1 with ⟨a0, rfl⟩ | ⟨a0, a1, rfl⟩ | ⟨a0, a1, a2, rfl⟩ | ⟨a0, a1, a2, a3, rfl⟩ | ⟨a0, a1, a2, a3, a4, rfl⟩ | ⟨a0, a1, a2, a3, a4, a5, rfl⟩ | ⟨a0, a1, a2, a3, a4, a5, a6, rfl⟩ | ⟨a0, a1, a2, a3, a4, a5, a6, rfl⟩
  · rcases h2 with ⟨b0, rfl⟩ | ⟨b0, b1, rfl⟩ | ⟨b0, b1, b2, rfl⟩ | ⟨b0, b1, b2, b3, rfl⟩ | ⟨b0, b1, b2, b3, b4, rfl⟩ | ⟨b0, b1, b2, b3, b4, b5, rfl⟩ | ⟨b0, b1, b2, b3, b4, b5, b6, rfl⟩ | ⟨b0, b1, b2, b3, b4, b5, b6, rfl⟩
    · exact rfl
    · exact rfl
    · exact rfl
    · exact rfl
    · exact rfl
    · exact rfl
    · exact rfl
    · exact absurd a0 b0
  · rcases h2 with ⟨b0, rfl⟩ | ⟨b0, b1, rfl⟩ | ⟨b0, b1, b2, rfl⟩ | ⟨b0, b1, b2, b3, rfl⟩ | ⟨b0, b1, b2, b3, b4, rfl⟩ | ⟨b0, b1, b2, b3, b4, b5, rfl⟩ | ⟨b0, b1, b2, b3, b4, b5, b6, rfl⟩ | ⟨b0, b1, b2, b3, b4, b5, b6, rfl⟩
    · exact rfl
    · exact rfl
    · exact rfl
    · exact rfl
    · exact rfl
    · exact rfl
    · exact rfl
    · exact (by have y0 := fa_nlt a0 (show (0 : Int32).toInt = 0 from by decide); have y1 := fb_lt a1 (show (9 : Int32).toInt = 9 from by decide); have y2 := fa_nlt b0 (show (0 : Int32).toInt = 0 from by decide); have y3 := fb_nle b1 (show (10 : Int32).toInt = 10 from by decide); omega : False).elim
  · rcases h2 with ⟨b0, rfl⟩ | ⟨b0, b1, rfl⟩ | ⟨b0, b1, b2, rfl⟩ | ⟨b0, b1, b2, b3, rfl⟩ | ⟨b0, b1, b2, b3, b4, rfl⟩ | ⟨b0, b1, b2, b3, b4, b5, rfl⟩ | ⟨b0, b1, b2, b3, b4, b5, b6, rfl⟩ | ⟨b0, b1, b2, b3, b4, b5, b6, rfl⟩
    · exact rfl
    · exact rfl
    · exact rfl
    · exact rfl
    · exact rfl
    · exact rfl
    · exact rfl
    · exact absurd a2 b2
  · rcases h2 with ⟨b0, rfl⟩ | ⟨b0, b1, rfl⟩ | ⟨b0, b1, b2, rfl⟩ | ⟨b0, b1, b2, b3, rfl⟩ | ⟨b0, b1, b2, b3, b4, rfl⟩ | ⟨b0, b1, b2, b3, b4, b5, rfl⟩ | ⟨b0, b1, b2, b3, b4, b5, b6, rfl⟩ | ⟨b0, b1, b2, b3, b4, b5, b6, rfl⟩
    · exact rfl
    · exact rfl
    · exact rfl
    · exact rfl
    · exact rfl
    · exact rfl
    · exact rfl
    · exact (by have y0 := fa_nlt a2 (show (0 : Int32).toInt = 0 from by decide); have y1 := fb_lt a3 (show (9 : Int32).toInt = 9 from by decide); have y2 := fa_nlt b2 (show (0 : Int32).toInt = 0 from by decide); have y3 := fb_nle b3 (show (10 : Int32).toInt = 10 from by decide); omega : False).elim
  · rcases h2 with ⟨b0, rfl⟩ | ⟨b0, b1, rfl⟩ | ⟨b0, b1, b2, rfl⟩ | ⟨b0, b1, b2, b3, rfl⟩ | ⟨b0, b1, b2, b3, b4, rfl⟩ | ⟨b0, b1, b2, b3, b4, b5, rfl⟩ | ⟨b0, b1, b2, b3, b4, b5, b6, rfl⟩ | ⟨b0, b1, b2, b3, b4, b5, b6, rfl⟩
    · exact rfl
    · exact rfl
    · exact rfl
    · exact rfl
    · exact rfl
    · exact rfl
    · exact rfl
    · exact absurd a4 b4
  · rcases h2 with ⟨b0, rfl⟩ | ⟨b0, b1, rfl⟩ | ⟨b0, b1, b2, rfl⟩ | ⟨b0, b1, b2, b3, rfl⟩ | ⟨b0, b1, b2, b3, b4, rfl⟩ | ⟨b0, b1, b2, b3, b4, b5, rfl⟩ | ⟨b0, b1, b2, b3, b4, b5, b6, rfl⟩ | ⟨b0, b1, b2, b3, b4, b5, b6, rfl⟩
    · exact rfl
    · exact rfl
    · exact rfl
    · exact rfl
    · exact rfl
    · exact rfl
    · exact rfl
    · exact absurd a5 b5
  · rcases h2 with ⟨b0, rfl⟩ | ⟨b0, b1, rfl⟩ | ⟨b0, b1, b2, rfl⟩ | ⟨b0, b1, b2, b3, rfl⟩ | ⟨b0, b1, b2, b3, b4, rfl⟩ | ⟨b0, b1, b2, b3, b4, b5, rfl⟩ | ⟨b0, b1, b2, b3, b4, b5, b6, rfl⟩ | ⟨b0, b1, b2, b3, b4, b5, b6, rfl⟩
    · exact rfl
    · exact rfl
    · exact rfl
    · exact rfl
    · exact rfl
    · exact rfl
    · exact rfl
    · exact absurd a6 b6
  · rcases h2 with ⟨b0, rfl⟩ | ⟨b0, b1, rfl⟩ | ⟨b0, b1, b2, rfl⟩ | ⟨b0, b1, b2, b3, rfl⟩ | ⟨b0, b1, b2, b3, b4, rfl⟩ | ⟨b0, b1, b2, b3, b4, b5, rfl⟩ | ⟨b0, b1, b2, b3, b4, b5, b6, rfl⟩ | ⟨b0, b1, b2, b3, b4, b5, b6, rfl⟩
    · exact absurd b0 a0
    · exact (by have y0 := fa_nlt a0 (show (0 : Int32).toInt = 0 from by decide); have y1 := fb_nlt a1 (show (9 : Int32).toInt = 9 from by decide); have y2 := fa_nlt b0 (show (0 : Int32).toInt = 0 from by decide); have y3 := fb_le b1 (show (10 : Int32).toInt = 10 from by decide); omega : False).elim
    · exact absurd b2 a2
    · exact (by have y0 := fa_nlt a2 (show (0 : Int32).toInt = 0 from by decide); have y1 := fb_nlt a3 (show (9 : Int32).toInt = 9 from by decide); have y2 := fa_nlt b2 (show (0 : Int32).toInt = 0 from by decide); have y3 := fb_le b3 (show (10 : Int32).toInt = 10 from by decide); omega : False).elim
    · exact absurd b4 a4
    · exact absurd b5 a5
    · exact absurd b6 a6
    · exact rfl

theorem eq_X11_terms_v1_X12_terms_v1 (p0 : Int32) (r1 r2 : Int32) (h1 : (p0 < 0 ∧ r1 = (-1000)) ∨ (¬ p0 < 0 ∧ 399 < p0 ∧ r1 = (-1000)) ∨ (¬ p0 < 0 ∧ ¬ 399 < p0 ∧ ¬ p0 < 0 ∧ r1 = 0)) (h2 : (p0 < 0 ∧ r2 = (-1000)) ∨ (¬ p0 < 0 ∧ 399 < p0 ∧ r2 = (-1000)) ∨ (¬ p0 < 0 ∧ ¬ 399 < p0 ∧ r2 = 0)) : r1 = r2 := by
  rcases h1 with ⟨a0, rfl⟩ | ⟨a0, a1, rfl⟩ | ⟨a0, a1, a2, rfl⟩
  · rcases h2 with ⟨b0, rfl⟩ | ⟨b0, b1, rfl⟩ | ⟨b0, b1, rfl⟩
    · exact rfl
    · exact rfl
    · exact absurd a0 b0
  · rcases h2 with ⟨b0, rfl⟩ | ⟨b0, b1, rfl⟩ | ⟨b0, b1, rfl⟩
    · exact rfl
    · exact rfl
    · exact absurd a1 b1
  · rcases h2 with ⟨b0, rfl⟩ | ⟨b0, b1, rfl⟩ | ⟨b0, b1, rfl⟩
    · exact absurd b0 a0
    · exact absurd b1 a1
    · exact rfl

theorem eq_X11_fault_v1_X12_fault_v1 (r1 r2 : Int32) (h1 : r1 = 0) (h2 : r2 = 0) : r1 = r2 := by
  obtain rfl := h1
  obtain rfl := h2
  exact rfl

theorem eq_X11_bundle_v1_X12_bundle_v1 (p0 : Int32) (p1 : Int32) (p2 : Int32) (p3 : Int32) (p4 : Int32) (r1 r2 : Int32) (h1 : (p0 < 0 ∧ r1 = (-1)) ∨ (¬ p0 < 0 ∧ 0 ≤ p0 ∧ r1 = (-1))) (h2 : (p0 < 0 ∧ r2 = (-1)) ∨ (¬ p0 < 0 ∧ 0 ≤ p0 ∧ r2 = (-1))) : r1 = r2 := by
  rcases h1 with ⟨a0, rfl⟩ | ⟨a0, a1, rfl⟩
  · rcases h2 with ⟨b0, rfl⟩ | ⟨b0, b1, rfl⟩
    · exact rfl
    · exact rfl
  · rcases h2 with ⟨b0, rfl⟩ | ⟨b0, b1, rfl⟩
    · exact rfl
    · exact rfl

theorem eq_X11_told_v1_X12_told_v1 (p0 : Int32) (p1 : Int32) (r1 r2 : Int32) (h1 : (p0 < 0 ∧ r1 = (-1)) ∨ (¬ p0 < 0 ∧ 0 ≤ p0 ∧ r1 = (-1))) (h2 : (p0 < 0 ∧ r2 = (-1)) ∨ (¬ p0 < 0 ∧ (-1) < p0 ∧ r2 = (-1))) : r1 = r2 := by
  rcases h1 with ⟨a0, rfl⟩ | ⟨a0, a1, rfl⟩
  · rcases h2 with ⟨b0, rfl⟩ | ⟨b0, b1, rfl⟩
    · exact rfl
    · exact rfl
  · rcases h2 with ⟨b0, rfl⟩ | ⟨b0, b1, rfl⟩
    · exact rfl
    · exact rfl

theorem eq_X11_why_v1_X12_why_v1 (r1 r2 : Int32) (h1 : r1 = (-1)) (h2 : r2 = (-1)) : r1 = r2 := by
  obtain rfl := h1
  obtain rfl := h2
  exact rfl

theorem eq_X11_close_v1_X12_close_v1 (r1 r2 : Int32) (h1 : r1 = 0) (h2 : r2 = 0) : r1 = r2 := by
  obtain rfl := h1
  obtain rfl := h2
  exact rfl

theorem eq_X11_counted_v1_X12_counted_v1 (p0 : Int32) (p1 : Int32) (p2 : Int32) (p3 : Int32) (r1 r2 : Int32) (h1 : (p0 < 0 ∧ r1 = (-1)) ∨ (¬ p0 < 0 ∧ 3 < p0 ∧ r1 = (-1)) ∨ (¬ p0 < 0 ∧ ¬ 3 < p0 ∧ p1 < 0 ∧ r1 = (-1)) ∨ (¬ p0 < 0 ∧ ¬ 3 < p0 ∧ ¬ p1 < 0 ∧ 9 < p1 ∧ r1 = (-1)) ∨ (¬ p0 < 0 ∧ ¬ 3 < p0 ∧ ¬ p1 < 0 ∧ ¬ 9 < p1 ∧ p2 < 0 ∧ r1 = (-1)) ∨ (¬ p0 < 0 ∧ ¬ 3 < p0 ∧ ¬ p1 < 0 ∧ ¬ 9 < p1 ∧ ¬ p2 < 0 ∧ (-1) < p2 ∧ r1 = (-1))) (h2 : (p0 < 0 ∧ r2 = (-1)) ∨ (¬ p0 < 0 ∧ 4 ≤ p0 ∧ r2 = (-1)) ∨ (¬ p0 < 0 ∧ ¬ 4 ≤ p0 ∧ p1 < 0 ∧ r2 = (-1)) ∨ (¬ p0 < 0 ∧ ¬ 4 ≤ p0 ∧ ¬ p1 < 0 ∧ 10 ≤ p1 ∧ r2 = (-1)) ∨ (¬ p0 < 0 ∧ ¬ 4 ≤ p0 ∧ ¬ p1 < 0 ∧ ¬ 10 ≤ p1 ∧ p2 < 0 ∧ r2 = (-1)) ∨ (¬ p0 < 0 ∧ ¬ 4 ≤ p0 ∧ ¬ p1 < 0 ∧ ¬ 10 ≤ p1 ∧ ¬ p2 < 0 ∧ (-1) < p2 ∧ r2 = (-1))) : r1 = r2 := by
  rcases h1 with ⟨a0, rfl⟩ | ⟨a0, a1, rfl⟩ | ⟨a0, a1, a2, rfl⟩ | ⟨a0, a1, a2, a3, rfl⟩ | ⟨a0, a1, a2, a3, a4, rfl⟩ | ⟨a0, a1, a2, a3, a4, a5, rfl⟩
  · rcases h2 with ⟨b0, rfl⟩ | ⟨b0, b1, rfl⟩ | ⟨b0, b1, b2, rfl⟩ | ⟨b0, b1, b2, b3, rfl⟩ | ⟨b0, b1, b2, b3, b4, rfl⟩ | ⟨b0, b1, b2, b3, b4, b5, rfl⟩
    · exact rfl
    · exact rfl
    · exact rfl
    · exact rfl
    · exact rfl
    · exact rfl
  · rcases h2 with ⟨b0, rfl⟩ | ⟨b0, b1, rfl⟩ | ⟨b0, b1, b2, rfl⟩ | ⟨b0, b1, b2, b3, rfl⟩ | ⟨b0, b1, b2, b3, b4, rfl⟩ | ⟨b0, b1, b2, b3, b4, b5, rfl⟩
    · exact rfl
    · exact rfl
    · exact rfl
    · exact rfl
    · exact rfl
    · exact rfl
  · rcases h2 with ⟨b0, rfl⟩ | ⟨b0, b1, rfl⟩ | ⟨b0, b1, b2, rfl⟩ | ⟨b0, b1, b2, b3, rfl⟩ | ⟨b0, b1, b2, b3, b4, rfl⟩ | ⟨b0, b1, b2, b3, b4, b5, rfl⟩
    · exact rfl
    · exact rfl
    · exact rfl
    · exact rfl
    · exact rfl
    · exact rfl
  · rcases h2 with ⟨b0, rfl⟩ | ⟨b0, b1, rfl⟩ | ⟨b0, b1, b2, rfl⟩ | ⟨b0, b1, b2, b3, rfl⟩ | ⟨b0, b1, b2, b3, b4, rfl⟩ | ⟨b0, b1, b2, b3, b4, b5, rfl⟩
    · exact rfl
    · exact rfl
    · exact rfl
    · exact rfl
    · exact rfl
    · exact rfl
  · rcases h2 with ⟨b0, rfl⟩ | ⟨b0, b1, rfl⟩ | ⟨b0, b1, b2, rfl⟩ | ⟨b0, b1, b2, b3, rfl⟩ | ⟨b0, b1, b2, b3, b4, rfl⟩ | ⟨b0, b1, b2, b3, b4, b5, rfl⟩
    · exact rfl
    · exact rfl
    · exact rfl
    · exact rfl
    · exact rfl
    · exact rfl
  · rcases h2 with ⟨b0, rfl⟩ | ⟨b0, b1, rfl⟩ | ⟨b0, b1, b2, rfl⟩ | ⟨b0, b1, b2, b3, rfl⟩ | ⟨b0, b1, b2, b3, b4, rfl⟩ | ⟨b0, b1, b2, b3, b4, b5, rfl⟩
    · exact rfl
    · exact rfl
    · exact rfl
    · exact rfl
    · exact rfl
    · exact rfl

theorem eq_X11_falseCounts_v1_X12_falseCounts_v1 (p0 : Int32) (r1 r2 : Int32) (h1 : r1 = 0) (h2 : r2 = 0) : r1 = r2 := by
  obtain rfl := h1
  obtain rfl := h2
  exact rfl

theorem eq_X11_shortOf_v1_X12_shortOf_v1 (p0 : Int32) (r1 r2 : Int32) (h1 : r1 = 0) (h2 : r2 = 0) : r1 = r2 := by
  obtain rfl := h1
  obtain rfl := h2
  exact rfl

theorem eq_X11_best_v1_X12_best_v1 (p0 : Int32) (p1 : Int32) (p2 : Int32) (p3 : Int32) (p4 : Int32) (r1 r2 : Int32) (h1 : (p0 < 0 ∧ r1 = (-1)) ∨ (¬ p0 < 0 ∧ 9 < p0 ∧ r1 = (-1)) ∨ (¬ p0 < 0 ∧ ¬ 9 < p0 ∧ p1 < 0 ∧ r1 = (-1)) ∨ (¬ p0 < 0 ∧ ¬ 9 < p0 ∧ ¬ p1 < 0 ∧ 3 < p1 ∧ r1 = (-1)) ∨ (¬ p0 < 0 ∧ ¬ 9 < p0 ∧ ¬ p1 < 0 ∧ ¬ 3 < p1 ∧ p2 < 0 ∧ r1 = (-1)) ∨ (¬ p0 < 0 ∧ ¬ 9 < p0 ∧ ¬ p1 < 0 ∧ ¬ 3 < p1 ∧ ¬ p2 < 0 ∧ 1000 < p2 ∧ r1 = (-1)) ∨ (¬ p0 < 0 ∧ ¬ 9 < p0 ∧ ¬ p1 < 0 ∧ ¬ 3 < p1 ∧ ¬ p2 < 0 ∧ ¬ 1000 < p2 ∧ p3 < 0 ∧ r1 = (-1)) ∨ (¬ p0 < 0 ∧ ¬ 9 < p0 ∧ ¬ p1 < 0 ∧ ¬ 3 < p1 ∧ ¬ p2 < 0 ∧ ¬ 1000 < p2 ∧ ¬ p3 < 0 ∧ 1000 < p3 ∧ r1 = (-1)) ∨ (¬ p0 < 0 ∧ ¬ 9 < p0 ∧ ¬ p1 < 0 ∧ ¬ 3 < p1 ∧ ¬ p2 < 0 ∧ ¬ 1000 < p2 ∧ ¬ p3 < 0 ∧ ¬ 1000 < p3 ∧ p4 < 0 ∧ r1 = (-1)) ∨ (¬ p0 < 0 ∧ ¬ 9 < p0 ∧ ¬ p1 < 0 ∧ ¬ 3 < p1 ∧ ¬ p2 < 0 ∧ ¬ 1000 < p2 ∧ ¬ p3 < 0 ∧ ¬ 1000 < p3 ∧ ¬ p4 < 0 ∧ 100 < p4 ∧ r1 = (-1)) ∨ (¬ p0 < 0 ∧ ¬ 9 < p0 ∧ ¬ p1 < 0 ∧ ¬ 3 < p1 ∧ ¬ p2 < 0 ∧ ¬ 1000 < p2 ∧ ¬ p3 < 0 ∧ ¬ 1000 < p3 ∧ ¬ p4 < 0 ∧ ¬ 100 < p4 ∧ r1 = (-1))) (h2 : r2 = (-1)) : r1 = r2 := by
  rcases h1 with ⟨a0, rfl⟩ | ⟨a0, a1, rfl⟩ | ⟨a0, a1, a2, rfl⟩ | ⟨a0, a1, a2, a3, rfl⟩ | ⟨a0, a1, a2, a3, a4, rfl⟩ | ⟨a0, a1, a2, a3, a4, a5, rfl⟩ | ⟨a0, a1, a2, a3, a4, a5, a6, rfl⟩ | ⟨a0, a1, a2, a3, a4, a5, a6, a7, rfl⟩ | ⟨a0, a1, a2, a3, a4, a5, a6, a7, a8, rfl⟩ | ⟨a0, a1, a2, a3, a4, a5, a6, a7, a8, a9, rfl⟩ | ⟨a0, a1, a2, a3, a4, a5, a6, a7, a8, a9, rfl⟩
  · obtain rfl := h2
    rfl
  · obtain rfl := h2
    rfl
  · obtain rfl := h2
    rfl
  · obtain rfl := h2
    rfl
  · obtain rfl := h2
    rfl
  · obtain rfl := h2
    rfl
  · obtain rfl := h2
    rfl
  · obtain rfl := h2
    rfl
  · obtain rfl := h2
    rfl
  · obtain rfl := h2
    rfl
  · obtain rfl := h2
    rfl

theorem eq_X11_tried_v1_X12_tried_v1 (r1 r2 : Int32) (h1 : r1 = 0) (h2 : r2 = 0) : r1 = r2 := by
  obtain rfl := h1
  obtain rfl := h2
  exact rfl

theorem eq_X11_triedEaten_v1_X12_triedEaten_v1 (r1 r2 : Int32) (h1 : r1 = (-1)) (h2 : r2 = (-1)) : r1 = r2 := by
  obtain rfl := h1
  obtain rfl := h2
  exact rfl

theorem eq_X11_parted_v1_X12_parted_v1 (p0 : Int32) (p1 : Int32) (p2 : Int32) (r1 r2 : Int32) (h1 : (p0 < 1 ∧ r1 = (-1)) ∨ (¬ p0 < 1 ∧ 8 < p0 ∧ r1 = (-1)) ∨ (¬ p0 < 1 ∧ ¬ 8 < p0 ∧ ¬ 0 = ((2 * p0) * p0) ∧ r1 = (-1))) (h2 : (p0 < 1 ∧ r2 = (-1)) ∨ (¬ p0 < 1 ∧ 8 < p0 ∧ r2 = (-1)) ∨ (¬ p0 < 1 ∧ ¬ 8 < p0 ∧ ¬ 0 = ((2 * p0) * p0) ∧ r2 = (-1))) : r1 = r2 := by
  rcases h1 with ⟨a0, rfl⟩ | ⟨a0, a1, rfl⟩ | ⟨a0, a1, a2, rfl⟩
  · rcases h2 with ⟨b0, rfl⟩ | ⟨b0, b1, rfl⟩ | ⟨b0, b1, b2, rfl⟩
    · exact rfl
    · exact rfl
    · exact rfl
  · rcases h2 with ⟨b0, rfl⟩ | ⟨b0, b1, rfl⟩ | ⟨b0, b1, b2, rfl⟩
    · exact rfl
    · exact rfl
    · exact rfl
  · rcases h2 with ⟨b0, rfl⟩ | ⟨b0, b1, rfl⟩ | ⟨b0, b1, b2, rfl⟩
    · exact rfl
    · exact rfl
    · exact rfl

theorem eq_X11_partedAt_v1_X12_partedAt_v1 (p0 : Int32) (r1 r2 : Int32) (h1 : (p0 < 0 ∧ r1 = (-1)) ∨ (¬ p0 < 0 ∧ (-1) < p0 ∧ r1 = (-1))) (h2 : r2 = (-1)) : r1 = r2 := by
  rcases h1 with ⟨a0, rfl⟩ | ⟨a0, a1, rfl⟩
  · obtain rfl := h2
    rfl
  · obtain rfl := h2
    rfl

theorem eq_X11_peace_v1_X12_peace_v1 (p0 : Int32) (r1 r2 : Int32) (h1 : r1 = (-1)) (h2 : r2 = (-1)) : r1 = r2 := by
  obtain rfl := h1
  obtain rfl := h2
  exact rfl

theorem eq_X11_truck_v1_X12_truck_v1 (r1 r2 : Int32) (h1 : r1 = (-1)) (h2 : r2 = (-1)) : r1 = r2 := by
  obtain rfl := h1
  obtain rfl := h2
  exact rfl

theorem eq_X11_truckAt_v1_X12_truckAt_v1 (p0 : Int32) (r1 r2 : Int32) (h1 : (p0 < 0 ∧ r1 = (-1)) ∨ (¬ p0 < 0 ∧ (-1) < p0 ∧ r1 = (-1))) (h2 : r2 = (-1)) : r1 = r2 := by
  rcases h1 with ⟨a0, rfl⟩ | ⟨a0, a1, rfl⟩
  · obtain rfl := h2
    rfl
  · obtain rfl := h2
    rfl

theorem eq_X11_strike_v1_X12_strike_v1 (p0 : Int32) (p1 : Int32) (p2 : Int32) (p3 : Int32) (p4 : Int32) (r1 r2 : Int32) (h1 : (p0 < 0 ∧ r1 = (-1)) ∨ (¬ p0 < 0 ∧ 100000 < p0 ∧ r1 = (-1)) ∨ (¬ p0 < 0 ∧ ¬ 100000 < p0 ∧ p1 < 0 ∧ r1 = (-1)) ∨ (¬ p0 < 0 ∧ ¬ 100000 < p0 ∧ ¬ p1 < 0 ∧ 100000 < p1 ∧ r1 = (-1)) ∨ (¬ p0 < 0 ∧ ¬ 100000 < p0 ∧ ¬ p1 < 0 ∧ ¬ 100000 < p1 ∧ p2 < 0 ∧ r1 = (-1)) ∨ (¬ p0 < 0 ∧ ¬ 100000 < p0 ∧ ¬ p1 < 0 ∧ ¬ 100000 < p1 ∧ ¬ p2 < 0 ∧ 100000 < p2 ∧ r1 = (-1)) ∨ (¬ p0 < 0 ∧ ¬ 100000 < p0 ∧ ¬ p1 < 0 ∧ ¬ 100000 < p1 ∧ ¬ p2 < 0 ∧ ¬ 100000 < p2 ∧ p3 < 0 ∧ r1 = (-1)) ∨ (¬ p0 < 0 ∧ ¬ 100000 < p0 ∧ ¬ p1 < 0 ∧ ¬ 100000 < p1 ∧ ¬ p2 < 0 ∧ ¬ 100000 < p2 ∧ ¬ p3 < 0 ∧ 100000 < p3 ∧ r1 = (-1)) ∨ (¬ p0 < 0 ∧ ¬ 100000 < p0 ∧ ¬ p1 < 0 ∧ ¬ 100000 < p1 ∧ ¬ p2 < 0 ∧ ¬ 100000 < p2 ∧ ¬ p3 < 0 ∧ ¬ 100000 < p3 ∧ p4 < 0 ∧ r1 = (-1)) ∨ (¬ p0 < 0 ∧ ¬ 100000 < p0 ∧ ¬ p1 < 0 ∧ ¬ 100000 < p1 ∧ ¬ p2 < 0 ∧ ¬ 100000 < p2 ∧ ¬ p3 < 0 ∧ ¬ 100000 < p3 ∧ ¬ p4 < 0 ∧ 100000 < p4 ∧ r1 = (-1)) ∨ (¬ p0 < 0 ∧ ¬ 100000 < p0 ∧ ¬ p1 < 0 ∧ ¬ 100000 < p1 ∧ ¬ p2 < 0 ∧ ¬ 100000 < p2 ∧ ¬ p3 < 0 ∧ ¬ 100000 < p3 ∧ ¬ p4 < 0 ∧ ¬ 100000 < p4 ∧ r1 = (-1))) (h2 : r2 = (-1)) : r1 = r2 := by
  rcases h1 with ⟨a0, rfl⟩ | ⟨a0, a1, rfl⟩ | ⟨a0, a1, a2, rfl⟩ | ⟨a0, a1, a2, a3, rfl⟩ | ⟨a0, a1, a2, a3, a4, rfl⟩ | ⟨a0, a1, a2, a3, a4, a5, rfl⟩ | ⟨a0, a1, a2, a3, a4, a5, a6, rfl⟩ | ⟨a0, a1, a2, a3, a4, a5, a6, a7, rfl⟩ | ⟨a0, a1, a2, a3, a4, a5, a6, a7, a8, rfl⟩ | ⟨a0, a1, a2, a3, a4, a5, a6, a7, a8, a9, rfl⟩ | ⟨a0, a1, a2, a3, a4, a5, a6, a7, a8, a9, rfl⟩
  · obtain rfl := h2
    rfl
  · obtain rfl := h2
    rfl
  · obtain rfl := h2
    rfl
  · obtain rfl := h2
    rfl
  · obtain rfl := h2
    rfl
  · obtain rfl := h2
    rfl
  · obtain rfl := h2
    rfl
  · obtain rfl := h2
    rfl
  · obtain rfl := h2
    rfl
  · obtain rfl := h2
    rfl
  · obtain rfl := h2
    rfl

theorem eq_X11_struck_v1_X12_struck_v1 (p0 : Int32) (r1 r2 : Int32) (h1 : (¬ p0 = 0 ∧ ¬ p0 = 1 ∧ r1 = (-1)) ∨ (¬ p0 = 0 ∧ p0 = 1 ∧ r1 = (-1)) ∨ (p0 = 0 ∧ r1 = (-1))) (h2 : (¬ p0 = 0 ∧ ¬ p0 = 1 ∧ r2 = (-1)) ∨ (¬ p0 = 0 ∧ p0 = 1 ∧ r2 = (-1)) ∨ (p0 = 0 ∧ r2 = (-1))) : r1 = r2 := by
  rcases h1 with ⟨a0, a1, rfl⟩ | ⟨a0, a1, rfl⟩ | ⟨a0, rfl⟩
  · rcases h2 with ⟨b0, b1, rfl⟩ | ⟨b0, b1, rfl⟩ | ⟨b0, rfl⟩
    · exact rfl
    · exact rfl
    · exact rfl
  · rcases h2 with ⟨b0, b1, rfl⟩ | ⟨b0, b1, rfl⟩ | ⟨b0, rfl⟩
    · exact rfl
    · exact rfl
    · exact rfl
  · rcases h2 with ⟨b0, b1, rfl⟩ | ⟨b0, b1, rfl⟩ | ⟨b0, rfl⟩
    · exact rfl
    · exact rfl
    · exact rfl

theorem eq_X11_count_v1_X12_count_v1 (p0 : Int32) (r1 r2 : Int32) (h1 : (p0 = 0 ∧ r1 = 0) ∨ (p0 = 1 ∧ r1 = 0) ∨ (p0 = 2 ∧ r1 = 0) ∨ (p0 = 3 ∧ r1 = 0) ∨ (p0 = 4 ∧ r1 = 0) ∨ (p0 = 5 ∧ r1 = 0) ∨ ((p0.toInt < 0 ∨ 5 < p0.toInt) ∧ r1 = (-1))) (h2 : (p0 = 0 ∧ r2 = 0) ∨ (p0 = 1 ∧ r2 = 0) ∨ (p0 = 2 ∧ r2 = 0) ∨ (p0 = 3 ∧ r2 = 0) ∨ (p0 = 4 ∧ r2 = 0) ∨ (p0 = 5 ∧ r2 = 0) ∨ ((p0.toInt < 0 ∨ 5 < p0.toInt) ∧ r2 = (-1))) : r1 = r2 := by
  rcases h1 with ⟨a0, rfl⟩ | ⟨a0, rfl⟩ | ⟨a0, rfl⟩ | ⟨a0, rfl⟩ | ⟨a0, rfl⟩ | ⟨a0, rfl⟩ | ⟨a0, rfl⟩
  · rcases h2 with ⟨b0, rfl⟩ | ⟨b0, rfl⟩ | ⟨b0, rfl⟩ | ⟨b0, rfl⟩ | ⟨b0, rfl⟩ | ⟨b0, rfl⟩ | ⟨b0, rfl⟩
    · exact rfl
    · exact rfl
    · exact rfl
    · exact rfl
    · exact rfl
    · exact rfl
    · exact (by have y0 := fa_eq a0 (show (0 : Int32).toInt = 0 from by decide); have y1 := b0; omega : False).elim
  · rcases h2 with ⟨b0, rfl⟩ | ⟨b0, rfl⟩ | ⟨b0, rfl⟩ | ⟨b0, rfl⟩ | ⟨b0, rfl⟩ | ⟨b0, rfl⟩ | ⟨b0, rfl⟩
    · exact rfl
    · exact rfl
    · exact rfl
    · exact rfl
    · exact rfl
    · exact rfl
    · exact (by have y0 := fa_eq a0 (show (1 : Int32).toInt = 1 from by decide); have y1 := b0; omega : False).elim
  · rcases h2 with ⟨b0, rfl⟩ | ⟨b0, rfl⟩ | ⟨b0, rfl⟩ | ⟨b0, rfl⟩ | ⟨b0, rfl⟩ | ⟨b0, rfl⟩ | ⟨b0, rfl⟩
    · exact rfl
    · exact rfl
    · exact rfl
    · exact rfl
    · exact rfl
    · exact rfl
    · exact (by have y0 := fa_eq a0 (show (2 : Int32).toInt = 2 from by decide); have y1 := b0; omega : False).elim
  · rcases h2 with ⟨b0, rfl⟩ | ⟨b0, rfl⟩ | ⟨b0, rfl⟩ | ⟨b0, rfl⟩ | ⟨b0, rfl⟩ | ⟨b0, rfl⟩ | ⟨b0, rfl⟩
    · exact rfl
    · exact rfl
    · exact rfl
    · exact rfl
    · exact rfl
    · exact rfl
    · exact (by have y0 := fa_eq a0 (show (3 : Int32).toInt = 3 from by decide); have y1 := b0; omega : False).elim
  · rcases h2 with ⟨b0, rfl⟩ | ⟨b0, rfl⟩ | ⟨b0, rfl⟩ | ⟨b0, rfl⟩ | ⟨b0, rfl⟩ | ⟨b0, rfl⟩ | ⟨b0, rfl⟩
    · exact rfl
    · exact rfl
    · exact rfl
    · exact rfl
    · exact rfl
    · exact rfl
    · exact (by have y0 := fa_eq a0 (show (4 : Int32).toInt = 4 from by decide); have y1 := b0; omega : False).elim
  · rcases h2 with ⟨b0, rfl⟩ | ⟨b0, rfl⟩ | ⟨b0, rfl⟩ | ⟨b0, rfl⟩ | ⟨b0, rfl⟩ | ⟨b0, rfl⟩ | ⟨b0, rfl⟩
    · exact rfl
    · exact rfl
    · exact rfl
    · exact rfl
    · exact rfl
    · exact rfl
    · exact (by have y0 := fa_eq a0 (show (5 : Int32).toInt = 5 from by decide); have y1 := b0; omega : False).elim
  · rcases h2 with ⟨b0, rfl⟩ | ⟨b0, rfl⟩ | ⟨b0, rfl⟩ | ⟨b0, rfl⟩ | ⟨b0, rfl⟩ | ⟨b0, rfl⟩ | ⟨b0, rfl⟩
    · exact (by have y0 := a0; have y1 := fa_eq b0 (show (0 : Int32).toInt = 0 from by decide); omega : False).elim
    · exact (by have y0 := a0; have y1 := fa_eq b0 (show (1 : Int32).toInt = 1 from by decide); omega : False).elim
    · exact (by have y0 := a0; have y1 := fa_eq b0 (show (2 : Int32).toInt = 2 from by decide); omega : False).elim
    · exact (by have y0 := a0; have y1 := fa_eq b0 (show (3 : Int32).toInt = 3 from by decide); omega : False).elim
    · exact (by have y0 := a0; have y1 := fa_eq b0 (show (4 : Int32).toInt = 4 from by decide); omega : False).elim
    · exact (by have y0 := a0; have y1 := fa_eq b0 (show (5 : Int32).toInt = 5 from by decide); omega : False).elim
    · exact rfl
