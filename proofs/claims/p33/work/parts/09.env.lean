def nstM : List (String × Nat × MethodName × String) := [(RX1, 41, yX11_placeOf, "PaperBoys"), (RX5, 102, yX11_costOf, "PaperBoys"), (RX5, 147, yX11_backOf, "PaperBoys"), (RX5, 150, yX11_paidFor, "PaperBoys"), (RX2, 41, yX11_costOf, "PaperBoys"), (RX2, 50, yX11_backOf, "PaperBoys"), (RX2, 53, yX11_paidFor, "PaperBoys")]
def wdS : String := "price cry back most sell owe if not and or school badge owner age hour week day paper corner copies weather fists "
def wdB : List Int32 := [112, 114, 105, 99, 101, 32, 99, 114, 121, 32, 98, 97, 99, 107, 32, 109, 111, 115, 116, 32, 115, 101, 108, 108, 32, 111, 119, 101, 32, 105, 102, 32, 110, 111, 116, 32, 97, 110, 100, 32, 111, 114, 32, 115, 99, 104, 111, 111, 108, 32, 98, 97, 100, 103, 101, 32, 111, 119, 110, 101, 114, 32, 97, 103, 101, 32, 104, 111, 117, 114, 32, 119, 101, 101, 107, 32, 100, 97, 121, 32, 112, 97, 112, 101, 114, 32, 99, 111, 114, 110, 101, 114, 32, 99, 111, 112, 105, 101, 115, 32, 119, 101, 97, 116, 104, 101, 114, 32, 102, 105, 115, 116, 115, 32]
def xWd (τ : Nat → Nat) (U : State) : Prop := nst U ∧ (∀ q ∈ nstM, va_Nw (.methodLinkNest q.1 q.2.1 q.2.2.1 q.2.2.2) U) ∧ va_Nw (.castable RX1 "java/lang/Object") U ∧ va_Dc U ∧ va_Nw (.fieldLinkNest RX10 41 "PaperBoys" "WITHOUT_LINE" "[I" "PaperBoys") U ∧ vk_R RX7 98 wdS (τ 3) U
theorem xWd_same {τ : Nat → Nat} {u U : State} (h : u.vm = U.vm) (hn : xWd τ u) : xWd τ U := ⟨nst_same h hn.1, fun q hq => va_Nw.same rfl h (hn.2.1 q hq), va_Nw.same rfl h hn.2.2.1, va_Dc.moved (h ▸ Vm.Alike.refl u.vm) hn.2.2.2.1, va_Nw.same rfl h hn.2.2.2.2.1, hn.2.2.2.2.2.same h.symm⟩
theorem xWd_warm {τ : Nat → Nat} {s U : State} (hW : s.WarmedH U.vm) (hn : xWd τ s) : xWd τ U := ⟨nst_warm hW hn.1, fun q hq => va_Nw.warmM hW (hn.2.1 q hq), va_Nw.warmC hW hn.2.2.1, va_Dc.moved hW.alike hn.2.2.2.1, va_Nw.warmF hW hn.2.2.2.2.1, hn.2.2.2.2.2.warm hW⟩
def wl0 (k : Nat) : Int := ([60, 1, 0, 200, 1, 100] : List Int).getD k 0
def xSt (τ : Nat → Nat) (A : Nat → Prop) (U : State) (H : Heap) : Prop := als (τ 0) A U H ∧ va_Z "PaperBoys" "WITHOUT_LINE" "[I" (.ref (τ 1)) A U H ∧ va_T .int (τ 1) 6 (fun k => .int (Int32.ofInt (wl0 k))) A U H ∧ va_Mi "[Ljava/lang/Object;" (τ 2) U ∧ vk_S 1 [114] [wdB] (fun _ => τ 3) (fun _ => τ 4) A U H ∧ va_Z "java/lang/String" "COMPACT_STRINGS" "Z" (.int 1) A U H ∧ va_Zq "jdk/internal/util/Preconditions" "SIOOBE_FORMATTER" "Ljava/util/function/BiFunction;" A U H
theorem zq_moved {C n d : String} {A : Nat → Prop} {u U : State} {H : Heap} (hvm : u.vm.Alike U.vm) (h : va_Zq C n d A u H) : va_Zq C n d A U H := by
  rcases h with h | ⟨t, h⟩
  · exact Or.inl (va_Z.moved hvm h)
  · exact Or.inr ⟨t, va_Z.moved hvm h⟩
theorem zq_kept {C n d : String} {A : Nat → Prop} {U : State} {H H1 : Heap} (h : va_Zq C n d A U H) (hq : ∀ a : Nat, a < H.size → ¬ A a → H1[a]? = H[a]?) : va_Zq C n d A U H1 := by
  rcases h with h | ⟨t, h⟩
  · exact Or.inl (va_Z.kept h hq)
  · exact Or.inr ⟨t, va_Z.kept h hq⟩
theorem xSt.moved {τ : Nat → Nat} {A : Nat → Prop} {u U : State} {H : Heap} (hvm : u.vm.Alike U.vm) (h : xSt τ A u H) : xSt τ A U H := ⟨h.1.moved hvm, va_Z.moved hvm h.2.1, va_T.moved hvm h.2.2.1, h.2.2.2.1.moved hvm, h.2.2.2.2.1.moved hvm, va_Z.moved hvm h.2.2.2.2.2.1, zq_moved hvm h.2.2.2.2.2.2⟩
theorem xSt.kept {τ : Nat → Nat} {A : Nat → Prop} {U : State} {H H1 : Heap} (h : xSt τ A U H) (hq : ∀ a : Nat, a < H.size → ¬ A a → H1[a]? = H[a]?) : xSt τ A U H1 := ⟨h.1.kept hq, va_Z.kept h.2.1 hq, va_T.kept h.2.2.1 hq, h.2.2.2.1, h.2.2.2.2.1.kept hq, va_Z.kept h.2.2.2.2.2.1 hq, zq_kept h.2.2.2.2.2.2 hq⟩
