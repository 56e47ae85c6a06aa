def nstM : List (String × Nat × MethodName × String) := [(RX1, 41, yX11_placeOf, "PaperBoys"), (RX5, 102, yX11_costOf, "PaperBoys"), (RX5, 147, yX11_backOf, "PaperBoys"), (RX5, 150, yX11_paidFor, "PaperBoys"), (RX2, 41, yX11_costOf, "PaperBoys"), (RX2, 50, yX11_backOf, "PaperBoys"), (RX2, 53, yX11_paidFor, "PaperBoys")]
def xWd (U : State) : Prop := nst U ∧ (∀ q ∈ nstM, va_Nw (.methodLinkNest q.1 q.2.1 q.2.2.1 q.2.2.2) U) ∧ va_Nw (.castable RX1 "java/lang/Object") U
theorem xWd_same {u U : State} (h : u.vm = U.vm) (hn : xWd u) : xWd U := ⟨nst_same h hn.1, fun q hq => va_Nw.same rfl h (hn.2.1 q hq), va_Nw.same rfl h hn.2.2⟩
theorem xWd_warm {s U : State} (hW : s.WarmedH U.vm) (hn : xWd s) : xWd U := ⟨nst_warm hW hn.1, fun q hq => va_Nw.warmM hW (hn.2.1 q hq), va_Nw.warmC hW hn.2.2⟩
def wl0 (k : Nat) : Int := ([60, 1, 0, 200, 1, 100] : List Int).getD k 0
def xSt (τ : Nat → Nat) (A : Nat → Prop) (U : State) (H : Heap) : Prop := als (τ 0) A U H ∧ va_Z "PaperBoys" "WITHOUT_LINE" "[I" (.ref (τ 1)) A U H ∧ va_T .int (τ 1) 6 (fun k => .int (Int32.ofInt (wl0 k))) A U H
theorem xSt.moved {τ : Nat → Nat} {A : Nat → Prop} {u U : State} {H : Heap} (hvm : u.vm.Alike U.vm) (h : xSt τ A u H) : xSt τ A U H := ⟨h.1.moved hvm, va_Z.moved hvm h.2.1, va_T.moved hvm h.2.2⟩
theorem xSt.kept {τ : Nat → Nat} {A : Nat → Prop} {U : State} {H H1 : Heap} (h : xSt τ A U H) (hq : ∀ a : Nat, a < H.size → ¬ A a → H1[a]? = H[a]?) : xSt τ A U H1 := ⟨h.1.kept hq, va_Z.kept h.2.1 hq, va_T.kept h.2.2 hq⟩
