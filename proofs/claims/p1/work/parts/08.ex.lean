def wsX : List Cond := wsL_law ++ (vx_atS RX11 256 "java/util/NoSuchElementException" ["java/lang/RuntimeException", "java/lang/Exception"]).filter goodWord
theorem wx_good : ∀ w ∈ wsX, goodWord w = true := List.forall_mem_append.mpr ⟨wl_good, fun _ h => (List.mem_filter.mp h).2⟩
theorem wx_g {w : Cond} (h : w ∈ wsX) : w ∈ wsX ∧ ((w.onTables && w.keeps) = true ∨ ∃ ty, w = .arrayClass ty) := ⟨h, good_of_word (wx_good w h)⟩
theorem gx_V {own C : String} {idx : Nat} {y : MethodName} {cd : ByteArray} {mx : Nat} {rt : Option FieldType} (h1 : Cond.methodLink own idx y ∈ wsL_law) (h2 : Cond.instanceMethod y ∈ wsL_law) (h3 : Cond.selects C y y ∈ wsL_law) (h4 : Cond.initialized C ∈ wsL_law) (h5 : Cond.code y cd mx rt ∈ wsL_law) : GoodIn wsX (wsV own idx C y (Cond.code y cd mx rt :: wsX)) := by
  intro w hw
  unfold wsV at hw
  rcases List.mem_append.mp hw with h | h
  · simp only [List.mem_cons, List.not_mem_nil, or_false] at h
    rcases h with rfl | rfl | rfl | rfl
    · exact wx_g (List.mem_append_left _ h1)
    · exact wx_g (List.mem_append_left _ h2)
    · exact wx_g (List.mem_append_left _ h3)
    · exact wx_g (List.mem_append_left _ h4)
  · rcases List.mem_cons.mp h with rfl | h
    · exact wx_g (List.mem_append_left _ h5)
    · exact wx_g h
def thw (U : State) : Prop := va_Nw (.castable "java/util/NoSuchElementException" "java/util/NoSuchElementException") U ∧ va_Nw (.declares (Bundle.initS "java/lang/RuntimeException")) U ∧ va_Nw (.declares (Bundle.initS "java/lang/Exception")) U ∧ va_Nw (.declares (Bundle.initS Bundle.tN)) U
theorem thw_same {u U : State} (h : u.vm = U.vm) (q : thw u) : thw U := ⟨va_Nw.same rfl h q.1, va_Nw.same rfl h q.2.1, va_Nw.same rfl h q.2.2.1, va_Nw.same rfl h q.2.2.2⟩
theorem thw_warm {s U : State} (hW : s.WarmedH U.vm) (q : thw s) : thw U := ⟨va_Nw.warmC hW q.1, va_Nw.warmD hW q.2.1, va_Nw.warmD hW q.2.2.1, va_Nw.warmD hW q.2.2.2⟩
def thr (A : Nat → Prop) (U : State) (H : Heap) : Prop := thw U ∧ (∃ a, vk_R RX11 254 "no such bundle" a U) ∧ (∃ a, vk_R RX11 273 "no such boy" a U) ∧ vx_Zq Bundle.tN "UNASSIGNED_STACK" Bundle.steD A U H ∧ vx_Zq Bundle.tN "SUPPRESSED_SENTINEL" Bundle.listD A U H
theorem thr_same {A : Nat → Prop} {u U : State} {H : Heap} (h : u.vm = U.vm) (q : thr A u H) : thr A U H := ⟨thw_same h q.1, q.2.1.imp fun _ z => z.same h.symm, q.2.2.1.imp fun _ z => z.same h.symm, q.2.2.2.1.moved (h ▸ Vm.Alike.refl u.vm), q.2.2.2.2.moved (h ▸ Vm.Alike.refl u.vm)⟩
theorem thr_go {A B : Nat → Prop} {s U : State} {H H1 : Heap} (hW : s.WarmedH U.vm) (hk : ∀ a : Nat, a < H.size → ¬ A a → H1[a]? = H[a]?) (hAB : ∀ q, B q → A q) (q : thr A s H) : thr B U H1 := ⟨thw_warm hW q.1, q.2.1.imp fun _ z => z.warm hW, q.2.2.1.imp fun _ z => z.warm hW, ((q.2.2.2.1.kept hk).narrow hAB).moved hW.alike, ((q.2.2.2.2.kept hk).narrow hAB).moved hW.alike⟩
theorem thr_words {args : Array Value} {s : State} (h1 : ∀ w ∈ (vx_atS RX11 256 "java/util/NoSuchElementException" ["java/lang/RuntimeException", "java/lang/Exception"]).filter goodWord, w.before args s = true) (h : thw s) : ∀ w ∈ vx_atS RX11 256 "java/util/NoSuchElementException" ["java/lang/RuntimeException", "java/lang/Exception"], w.before args s = true := vx_hat (B := [.castable "java/util/NoSuchElementException" "java/util/NoSuchElementException", .declares (Bundle.initS "java/lang/RuntimeException"), .declares (Bundle.initS "java/lang/Exception"), .declares (Bundle.initS Bundle.tN)]) h1 (by decide +kernel) (vx_c (va_Nw.use rfl h.1) (vx_c (va_Nw.use rfl h.2.1) (vx_c (va_Nw.use rfl h.2.2.1) (vx_c (va_Nw.use rfl h.2.2.2) vx_n))))
theorem thr_good : ∀ w ∈ Cond.classLink RX11 252 "java/util/NoSuchElementException" :: Cond.initialized "java/util/NoSuchElementException" :: vx_atS RX11 256 "java/util/NoSuchElementException" ["java/lang/RuntimeException", "java/lang/Exception"], vx_ot w = true := by decide +kernel
