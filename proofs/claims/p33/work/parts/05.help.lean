theorem wl_g {w : Cond} (h : w ∈ wsL_law) : w ∈ wsL_law ∧ ((w.onTables && w.keeps) = true ∨ ∃ ty, w = .arrayClass ty) := ⟨h, good_of_word (wl_good w h)⟩
theorem gw_I {y : MethodName} {cd : ByteArray} {mx : Nat} {rt : Option FieldType} (h : Cond.code y cd mx rt ∈ wsL_law) : GoodIn wsL_law (Cond.code y cd mx rt :: wsL_law) := fun w hw => (List.mem_cons.mp hw).elim (fun e => by rw [e]; exact wl_g h) (fun h => wl_g h)
theorem gw_V {own C : String} {idx : Nat} {y : MethodName} {cd : ByteArray} {mx : Nat} {rt : Option FieldType} (h1 : Cond.methodLink own idx y ∈ wsL_law) (h2 : Cond.instanceMethod y ∈ wsL_law) (h3 : Cond.selects C y y ∈ wsL_law) (h4 : Cond.initialized C ∈ wsL_law) (h5 : Cond.code y cd mx rt ∈ wsL_law) : GoodIn wsL_law (wsV own idx C y (Cond.code y cd mx rt :: wsL_law)) := by
  intro w hw
  unfold wsV at hw
  rcases List.mem_append.mp hw with h | h
  · simp only [List.mem_cons, List.not_mem_nil, or_false] at h
    rcases h with rfl | rfl | rfl | rfl
    · exact wl_g h1
    · exact wl_g h2
    · exact wl_g h3
    · exact wl_g h4
  · exact gw_I h5 w h
theorem gw_S {own : String} {idx : Nat} {y : MethodName} {cd : ByteArray} {mx : Nat} {rt : Option FieldType} (h1 : Cond.methodLink own idx y ∈ wsL_law) (h2 : Cond.static y ∈ wsL_law) (h3 : Cond.initialized y.cls ∈ wsL_law) (h5 : Cond.code y cd mx rt ∈ wsL_law) : GoodIn wsL_law (va_wsS own idx y (Cond.code y cd mx rt :: wsL_law)) := by
  intro w hw
  unfold va_wsS at hw
  rcases List.mem_append.mp hw with h | h
  · simp only [List.mem_cons, List.not_mem_nil, or_false] at h
    rcases h with rfl | rfl | rfl
    · exact wl_g h1
    · exact wl_g h2
    · exact wl_g h3
  · exact gw_I h5 w h
section PBH
variable {p : Program} {l : Launch} {e : Env} {R : Room} {s : State} {m : MethodId} {args : Array Value} {below : List Frame} {meth : Method} {c : Code} {H : Heap} {locs : List Loc} {cells slots : Nat} {Q : State → Prop}
variable {cc : ByteArray} {pc : Nat} {ls : Array Slot} {rest : List Value} {D : va_G} {cl : List vw_C} {A : Nat → Prop} {a : Nat} {tys : List (ClassId × FieldType)} {ws : va_W} {H0 : Heap}
end PBH
def nstL : List (String × Nat × MethodName × String) := [(RX11, 9, yX9_init, "PaperBoys"), (RX11, 18, yX5_init, "PaperBoys"), (RX11, 30, yX4_init, "PaperBoys"), (RX11, 44, yX10_init, "PaperBoys"), (RX11, 51, yX7_init, "PaperBoys"), (RX11, 61, yX2_init, "PaperBoys"), (RX11, 68, yX8_init, "PaperBoys"), (RX11, 75, yX6_init, "PaperBoys")]
def nst (U : State) : Prop := (∀ q ∈ nstL, va_Nw (.methodLinkNest q.1 q.2.1 q.2.2.1 q.2.2.2) U) ∧ va_AOA .int U ∧ va_AO "java/lang/Object" U ∧ va_Nw (.castable RX0 "java/lang/Object") U ∧ va_Nw (.castable RX10 "java/lang/Object") U
theorem nst_same {u U : State} (h : u.vm = U.vm) (hn : nst u) : nst U := ⟨fun q hq => va_Nw.same rfl h (hn.1 q hq), va_AOA.moved (h ▸ Vm.Alike.refl u.vm) hn.2.1, va_AO.moved (h ▸ Vm.Alike.refl u.vm) hn.2.2.1, va_Nw.same rfl h hn.2.2.2.1, va_Nw.same rfl h hn.2.2.2.2⟩
theorem nst_warm {s U : State} (hW : s.WarmedH U.vm) (hn : nst s) : nst U := ⟨fun q hq => va_Nw.warmM hW (hn.1 q hq), va_AOA.moved hW.alike hn.2.1, va_AO.moved hW.alike hn.2.2.1, va_Nw.warmC hW hn.2.2.2.1, va_Nw.warmC hW hn.2.2.2.2⟩
def als (t : Nat) (A : Nat → Prop) (U : State) (H : Heap) : Prop := va_Z "java/util/ArrayList" "DEFAULTCAPACITY_EMPTY_ELEMENTDATA" "[Ljava/lang/Object;" (.ref t) A U H ∧ va_T (.object "java/lang/Object") t 0 (fun _ => .null) A U H
theorem als.moved {t : Nat} {A : Nat → Prop} {u U : State} {H : Heap} (hvm : u.vm.Alike U.vm) (h : als t A u H) : als t A U H := ⟨va_Z.moved hvm h.1, va_T.moved hvm h.2⟩
theorem als.kept {t : Nat} {A : Nat → Prop} {U : State} {H H1 : Heap} (h : als t A U H) (hq : ∀ a : Nat, a < H.size → ¬ A a → H1[a]? = H[a]?) : als t A U H1 := ⟨va_Z.kept h.1 hq, va_T.kept h.2 hq⟩
theorem als.narrow {t : Nat} {A B : Nat → Prop} {U : State} {H : Heap} (h : als t A U H) (hAB : ∀ q, B q → A q) : als t B U H := ⟨va_Z.narrow h.1 hAB, va_T.narrow h.2 hAB⟩