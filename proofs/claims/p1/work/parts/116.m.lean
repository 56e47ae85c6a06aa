set_option maxHeartbeats 4000000 in
set_option maxRecDepth 100000 in
theorem c_X7_scan_v1 (l : Launch) (dC : Nat → ClassId) (dI : Nat → Nat → Nat) (h0 : Nat) (h1 : Nat) (h2 : Nat) (h3 : Nat) (h4 : Nat) (k0 : ClassId) (k1 : ClassId) (sz : Nat) : Met l yX7_scan (Cond.code yX7_scan cX7_scan 7 none :: wsL_law) ({ frames := 1, cells := 0, slots := 0, locals := 13 }) (va_Pc [.ref h0, .ref h1] (fun U => U.heap.size = sz ∧ va_P (dC, dI) vwCl [(h1, .inr (10, [.ref h2, .int 0])), (h0, .inr (8, [.ref h3, .ref h4, .int 0, .int 0, .int 0, .int 0, .int 0])), (h3, .inl (k0, 301, .inl (fun _ => 0))), (h4, .inl (k1, 301, .inl (fun _ => 0)))] U.heap ∧ va_K (dC, dI) vwCl [(k0, .int), (k1, .int)] U ∧ va_D (fun _ => True) [(h1, .inr (10, [.ref h2, .int 0])), (h0, .inr (8, [.ref h3, .ref h4, .int 0, .int 0, .int 0, .int 0, .int 0])), (h3, .inl (k0, 301, .inl (fun _ => 0))), (h4, .inl (k1, 301, .inl (fun _ => 0)))])) (va_Qv (fun (_ : Unit) => True) (fun (_ : Unit) (t : State) => ∃ (qa : Nat → Nat) (qc : Nat → ClassId) (qg : Nat → Nat → Int32) (qz : Nat → Int32) (qr : Nat → Nat → Nat), va_P (dC, dI) vwCl [(h1, .inr (10, [.ref h2, .int 0])), (h0, .inr (8, [.ref h3, .ref h4, .int 0, .int 0, .int 0, .int 0, .int 0])), (h3, .inl (k0, 301, .inl (upd (fun _ => 0) 0 23))), (h4, .inl (k1, 301, .inl (upd (fun _ => 0) 0 0)))] t.heap ∧ va_K (dC, dI) vwCl [(k0, .int), (k1, .int)] t ∧ va_D (va_A [(h1, .inr (10, [.ref h2, .int 0])), (h0, .inr (8, [.ref h3, .ref h4, .int 0, .int 0, .int 0, .int 0, .int 0])), (h3, .inl (k0, 301, .inl (fun _ => 0))), (h4, .inl (k1, 301, .inl (fun _ => 0)))] sz) [(h1, .inr (10, [.ref h2, .int 0])), (h0, .inr (8, [.ref h3, .ref h4, .int 0, .int 0, .int 0, .int 0, .int 0])), (h3, .inl (k0, 301, .inl (upd (fun _ => 0) 0 23))), (h4, .inl (k1, 301, .inl (upd (fun _ => 0) 0 0)))]) (va_A [(h1, .inr (10, [.ref h2, .int 0])), (h0, .inr (8, [.ref h3, .ref h4, .int 0, .int 0, .int 0, .int 0, .int 0])), (h3, .inl (k0, 301, .inl (fun _ => 0))), (h4, .inl (k1, 301, .inl (fun _ => 0)))] sz)) 0 0 (va_A [(h1, .inr (10, [.ref h2, .int 0])), (h0, .inr (8, [.ref h3, .ref h4, .int 0, .int 0, .int 0, .int 0, .int 0])), (h3, .inl (k0, 301, .inl (fun _ => 0))), (h4, .inl (k1, 301, .inl (fun _ => 0)))] sz) := by
  refine Met.ofW (cc := cX7_scan) (maxL := 7) (ret := none) (by decide) rfl ?_
  intro p e s m args below meth c s₁ B hml hv
  obtain ⟨rfl, hsz, hP, hK, hD0⟩ := hv
  have hx := B.exec
  have hb := B.bytes
  have hr := B.returns
  have hts := atoms_spec (ws := Cond.code yX7_scan cX7_scan 7 none :: wsL_law) B.pre
  have hws : ∀ w ∈ wsL_law, w.before _ s = true := fun w h => hts w (List.mem_cons_of_mem _ h)
  have hown : s.vm.findClass RX7 = some m.cls := findClass_of_methodNamed B.named
  have hlocks := B.notSynchronized
  subst hsz
  have hD := hD0.self (sz := s.heap.size)
  generalize hAe : va_A [(h1, .inr (10, [.ref h2, .int 0])), (h0, .inr (8, [.ref h3, .ref h4, .int 0, .int 0, .int 0, .int 0, .int 0])), (h3, .inl (k0, 301, .inl (fun _ => 0))), (h4, .inl (k1, 301, .inl (fun _ => 0)))] s.heap.size = A at hD ⊢
  have hA : ∀ q : Nat, s.heap.size ≤ q → A q := fun q h => by rw [← hAe]; exact Or.inr h
  have hS : va_S A s.heap s.heap [] := va_S.rf
  have hP : va_P (dC, dI) vwCl [(h1, .inr (10, [.ref h2, .int 0])), (h0, .inr (8, [.ref h3, .ref h4, .int 0, .int 0, .int 0, .int 0, .int 0])), (h3, .inl (k0, 301, .inl (fun _ => 0))), (h4, .inl (k1, 301, .inl (fun _ => 0)))] s.heap := hP
  have hl := lv_entry ([.ref h0, .ref h1]) (n := 7) (Nat.le_of_ble_eq_true rfl)
  rw [lg_entry_eq]
  generalize (lg_sl ([.ref h0, .ref h1]) ++ List.replicate (7 - (lg_sl ([.ref h0, .ref h1])).length) Slot.unset).toArray = ls at hl ⊢
  have hl : lv_has ls 7 [(0, .ref h0), (1, .ref h1)] := hl
  refine lv_aload_n hx hb dX7_scan_0 rfl (lv_at hl 1 rfl) ?_
  refine va_get (D := (dC, dI)) (ci := 10) (v := .int 0) (C := RX9) (T := TX9) (N := 2) hx hb hws inlX9 hown hK hP 0 rfl rfl 1 (by decide) (hws _ m_22_19) (fun _ h9 => h9) rfl dX7_scan_1 ?_
  refine lv_sipush (v := 300) hx hb dX7_scan_4 (by decide) ?_
  refine va_mmin hx hb (hml.trans hl.1.symm) hown (hws _ m_23_0) (hws _ m_15_1) (hws _ m_13_23) (hws _ m_15_2) (Nat.le_of_ble_eq_true rfl) (Nat.le_of_ble_eq_true rfl) (Nat.le_of_ble_eq_true rfl) (Nat.le_of_ble_eq_true rfl) dX7_scan_7 ?_
  refine lv_topi (fun x_1 ex_1 => ?_)
  obtain rfl : x_1 = 0 := ex_1.trans (by decide)
  refine lv_istore_n (lv' := [(2, .int 0), (0, .ref h0), (1, .ref h1)]) hx hb dX7_scan_10 rfl hl (by decide) rfl (fun ls hl => ?_)
  refine lv_iconst (v := 0) hx hb dX7_scan_11 (by decide) ?_
  refine lv_istore_n (lv' := [(3, .int 0), (2, .int 0), (0, .ref h0), (1, .ref h1)]) hx hb dX7_scan_12 rfl hl (by decide) rfl (fun ls hl => ?_)
  refine lv_iconst (v := 0) hx hb dX7_scan_13 (by decide) ?_
  refine lv_istore (lv' := [(4, .int 0), (3, .int 0), (2, .int 0), (0, .ref h0), (1, .ref h1)]) hx hb dX7_scan_14 hl (by decide) rfl (fun ls hl => ?_)
  refine lv_iconst (v := 0) hx hb dX7_scan_16 (by decide) ?_
  refine lv_istore (lv' := [(5, .int 0), (4, .int 0), (3, .int 0), (2, .int 0), (0, .ref h0), (1, .ref h1)]) hx hb dX7_scan_17 hl (by decide) rfl (fun ls hl => ?_)
  refine lv_iload hx hb dX7_scan_19 (lv_at hl 0 rfl) ?_
  refine lv_iload_n hx hb dX7_scan_21 rfl (lv_at hl 3 rfl) ?_
  refine lv_icmp_ge (tgt := 125) hx hb dX7_scan_22 (by decide) (fun _ => ?_) (fun c_2 => absurd (by decide) c_2)
  refine lv_aload_n hx hb dX7_scan_125 rfl (lv_at hl 4 rfl) ?_
  refine va_get (D := (dC, dI)) (ci := 8) (v := .ref h3) (C := RX7) (T := TX7) (N := 7) hx hb hws inlX7 hown hK hP 1 rfl rfl 0 (by decide) (hws _ m_6_9) (fun _ h9 => h9) rfl dX7_scan_126 ?_
  refine lv_iload_n hx hb dX7_scan_129 rfl (lv_at hl 2 rfl) ?_
  refine lv_bipush (v := 23) hx hb dX7_scan_130 (by decide) ?_
  refine va_iast hx hb hK hP hD hS 2 0 rfl rfl (vin_c (by decide)) dX7_scan_132 (fun H locs hP hD hS => ?_)
  have hP : va_P (dC, dI) vwCl [(h1, .inr (10, [.ref h2, .int 0])), (h0, .inr (8, [.ref h3, .ref h4, .int 0, .int 0, .int 0, .int 0, .int 0])), (h3, .inl (k0, 301, .inl (upd (fun _ => 0) 0 23))), (h4, .inl (k1, 301, .inl (fun _ => 0)))] H := hP
  have hD : va_D A [(h1, .inr (10, [.ref h2, .int 0])), (h0, .inr (8, [.ref h3, .ref h4, .int 0, .int 0, .int 0, .int 0, .int 0])), (h3, .inl (k0, 301, .inl (upd (fun _ => 0) 0 23))), (h4, .inl (k1, 301, .inl (fun _ => 0)))] := hD
  refine lv_aload_n hx hb dX7_scan_133 rfl (lv_at hl 4 rfl) ?_
  refine va_get (D := (dC, dI)) (ci := 8) (v := .ref h4) (C := RX7) (T := TX7) (N := 7) hx hb hws inlX7 hown hK hP 1 rfl rfl 1 (by decide) (hws _ m_6_10) (fun _ h9 => h9) rfl dX7_scan_134 ?_
  refine lv_iload_n hx hb dX7_scan_137 rfl (lv_at hl 2 rfl) ?_
  refine lv_iload_n hx hb dX7_scan_138 rfl (lv_at hl 3 rfl) ?_
  refine va_iast hx hb hK hP hD hS 3 1 rfl rfl (vin_c (by decide)) dX7_scan_139 (fun H locs hP hD hS => ?_)
  have hP : va_P (dC, dI) vwCl [(h1, .inr (10, [.ref h2, .int 0])), (h0, .inr (8, [.ref h3, .ref h4, .int 0, .int 0, .int 0, .int 0, .int 0])), (h3, .inl (k0, 301, .inl (upd (fun _ => 0) 0 23))), (h4, .inl (k1, 301, .inl (upd (fun _ => 0) 0 0)))] H := hP
  have hD : va_D A [(h1, .inr (10, [.ref h2, .int 0])), (h0, .inr (8, [.ref h3, .ref h4, .int 0, .int 0, .int 0, .int 0, .int 0])), (h3, .inl (k0, 301, .inl (upd (fun _ => 0) 0 23))), (h4, .inl (k1, 301, .inl (upd (fun _ => 0) 0 0)))] := hD
  have hK9 := hK.sub (tys' := [(k0, .int), (k1, .int)]) [0, 1] rfl
  exact W.vret hx hb hr (fun t ht hW => ⟨⟨(), rfl, trivial, ⟨(fun k9 => ([] : List (Nat)).getD k9 0), (fun k9 => ([] : List ClassId).getD k9 default), (fun k9 => ([] : List (Nat → Int32)).getD k9 (fun _ => 0)), (fun k9 => ([] : List (Int32)).getD k9 0), (fun k9 => ([] : List (Nat → Nat)).getD k9 (fun _ => 0)), by rw [ht]; exact hP, va_K.moved hW.alike hK9, hD⟩⟩, hS.F ht⟩) hS.2.2 dX7_scan_140

set_option maxHeartbeats 4000000 in
set_option maxRecDepth 100000 in
theorem c_X7_now_v1 (l : Launch) (dC : Nat → ClassId) (dI : Nat → Nat → Nat) (h0 : Nat) (h1 : Nat) (h2 : Nat) (k0 : ClassId) (sz : Nat) : Met l yX7_now (Cond.code yX7_now cX7_now 1 (some .int) :: wsL_law) ({ frames := 0, cells := 0, slots := 0, locals := 0 }) (va_Pc [.ref h0] (fun U => U.heap.size = sz ∧ va_P (dC, dI) vwCl [(h0, .inr (8, [.ref h1, .ref h2, .int 0, .int 0, .int 0, .int 0, .int 0])), (h1, .inl (k0, 301, .inl (upd (fun _ => 0) 0 23)))] U.heap ∧ va_K (dC, dI) vwCl [(k0, .int)] U ∧ va_D (fun _ => True) [(h0, .inr (8, [.ref h1, .ref h2, .int 0, .int 0, .int 0, .int 0, .int 0])), (h1, .inl (k0, 301, .inl (upd (fun _ => 0) 0 23)))])) (vp_Si (fun r : Int32 => r = 23)) 0 0 (fun _ => False) := by
  refine Met.ofW (cc := cX7_now) (maxL := 1) (ret := (some .int)) (by decide) rfl ?_
  intro p e s m args below meth c s₁ B hml hv
  obtain ⟨rfl, hsz, hP, hK, hD0⟩ := hv
  have hx := B.exec
  have hb := B.bytes
  have hr := B.returns
  have hts := atoms_spec (ws := Cond.code yX7_now cX7_now 1 (some .int) :: wsL_law) B.pre
  have hws : ∀ w ∈ wsL_law, w.before _ s = true := fun w h => hts w (List.mem_cons_of_mem _ h)
  have hown : s.vm.findClass RX7 = some m.cls := findClass_of_methodNamed B.named
  have hlocks := B.notSynchronized
  subst hsz
  have hD := hD0.self (sz := s.heap.size)
  generalize hAe : va_A [(h0, .inr (8, [.ref h1, .ref h2, .int 0, .int 0, .int 0, .int 0, .int 0])), (h1, .inl (k0, 301, .inl (upd (fun _ => 0) 0 23)))] s.heap.size = A at hD
  have hA : ∀ q : Nat, s.heap.size ≤ q → A q := fun q h => by rw [← hAe]; exact Or.inr h
  have hS : va_S A s.heap s.heap [] := va_S.rf
  have hP : va_P (dC, dI) vwCl [(h0, .inr (8, [.ref h1, .ref h2, .int 0, .int 0, .int 0, .int 0, .int 0])), (h1, .inl (k0, 301, .inl (upd (fun _ => 0) 0 23)))] s.heap := hP
  have hl := lv_entry ([.ref h0]) (n := 1) (Nat.le_of_ble_eq_true rfl)
  rw [lg_entry_eq]
  generalize (lg_sl ([.ref h0]) ++ List.replicate (1 - (lg_sl ([.ref h0])).length) Slot.unset).toArray = ls at hl ⊢
  have hl : lv_has ls 1 [(0, .ref h0)] := hl
  refine lv_aload_n hx hb dX7_now_0 rfl (lv_at hl 0 rfl) ?_
  refine va_get (D := (dC, dI)) (ci := 8) (v := .int 0) (C := RX7) (T := TX7) (N := 7) hx hb hws inlX7 hown hK hP 0 rfl rfl 2 (by decide) (hws _ m_6_11) (fun _ h9 => h9) rfl dX7_now_1 ?_
  refine lv_aload_n hx hb dX7_now_4 rfl (lv_at hl 0 rfl) ?_
  refine va_get (D := (dC, dI)) (ci := 8) (v := .ref h1) (C := RX7) (T := TX7) (N := 7) hx hb hws inlX7 hown hK hP 0 rfl rfl 0 (by decide) (hws _ m_6_9) (fun _ h9 => h9) rfl dX7_now_5 ?_
  refine va_alen hx hb hK hP 1 0 rfl rfl (v := 301) rfl dX7_now_8 ?_
  refine lv_icmp_ge (tgt := 24) hx hb dX7_now_9 (by decide) (fun c_1 => absurd c_1 (by decide)) (fun _ => ?_)
  refine lv_aload_n hx hb dX7_now_12 rfl (lv_at hl 0 rfl) ?_
  refine va_get (D := (dC, dI)) (ci := 8) (v := .ref h1) (C := RX7) (T := TX7) (N := 7) hx hb hws inlX7 hown hK hP 0 rfl rfl 0 (by decide) (hws _ m_6_9) (fun _ h9 => h9) rfl dX7_now_13 ?_
  refine lv_aload_n hx hb dX7_now_16 rfl (lv_at hl 0 rfl) ?_
  refine va_get (D := (dC, dI)) (ci := 8) (v := .int 0) (C := RX7) (T := TX7) (N := 7) hx hb hws inlX7 hown hK hP 0 rfl rfl 2 (by decide) (hws _ m_6_11) (fun _ h9 => h9) rfl dX7_now_17 ?_
  refine va_iald hx hb hK hP 1 0 rfl rfl (vin_c (by decide)) dX7_now_20 ?_
  refine lv_topi (fun x_2 ex_2 => ?_)
  obtain rfl : x_2 = 23 := ex_2
  refine lv_goto (tgt := 26) hx hb dX7_now_21 (by decide) ?_
  exact W.iret (v := 23) hx hb hr (fun t ht hW => ⟨23, rfl, rfl, by rw [ht]⟩) (fun _ h9 => nomatch h9) dX7_now_26

set_option maxHeartbeats 4000000 in
set_option maxRecDepth 100000 in
theorem c_X7_read_v1 (l : Launch) (dC : Nat → ClassId) (dI : Nat → Nat → Nat) (h0 : Nat) (h1 : Nat) (h2 : Nat) (h3 : Nat) (h4 : Nat) (h5 : Nat) (k0 : ClassId) (k1 : ClassId) (h6 : Nat) (h7 : Nat) (h8 : Nat) (h9 : Nat) (h10 : Nat) (sz : Nat) : Met l yX7_read (Cond.code yX7_read cX7_read 4 none :: wsL_law) ({ frames := 2, cells := 0, slots := 0, locals := 39 }) (va_Pc [.ref h0, .ref h1, .ref h2] (fun U => U.heap.size = sz ∧ va_P (dC, dI) vwCl [(h1, .inr (10, [.ref h3, .int 0])), (h0, .inr (8, [.ref h4, .ref h5, .int 0, .int 0, .int 0, .int 0, .int 0])), (h4, .inl (k0, 301, .inl (fun _ => 0))), (h5, .inl (k1, 301, .inl (fun _ => 0))), (h2, .inr (11, [.int (-1), .int 0, .int 0, .ref h6, .ref h7, .ref h8, .ref h9, .ref h10]))] U.heap ∧ va_K (dC, dI) vwCl [(k0, .int), (k1, .int)] U ∧ va_D (fun _ => True) [(h1, .inr (10, [.ref h3, .int 0])), (h0, .inr (8, [.ref h4, .ref h5, .int 0, .int 0, .int 0, .int 0, .int 0])), (h4, .inl (k0, 301, .inl (fun _ => 0))), (h5, .inl (k1, 301, .inl (fun _ => 0))), (h2, .inr (11, [.int (-1), .int 0, .int 0, .ref h6, .ref h7, .ref h8, .ref h9, .ref h10]))])) (va_Qv (fun (_ : Unit) => True) (fun (_ : Unit) (t : State) => ∃ (qa : Nat → Nat) (qc : Nat → ClassId) (qg : Nat → Nat → Int32) (qz : Nat → Int32) (qr : Nat → Nat → Nat), va_P (dC, dI) vwCl [(h2, .inr (11, [.int (-1), .int 0, .int 0, .ref h6, .ref h7, .ref h8, .ref h9, .ref h10])), (h1, .inr (10, [.ref h3, .int 0])), (h0, .inr (8, [.ref h4, .ref h5, .int 0, .int 0, .int 0, .int 0, .int 0])), (h4, .inl (k0, 301, .inl (upd (fun _ => 0) 0 23))), (h5, .inl (k1, 301, .inl (upd (fun _ => 0) 0 0)))] t.heap ∧ va_K (dC, dI) vwCl [(k0, .int), (k1, .int)] t ∧ va_D (va_A [(h1, .inr (10, [.ref h3, .int 0])), (h0, .inr (8, [.ref h4, .ref h5, .int 0, .int 0, .int 0, .int 0, .int 0])), (h4, .inl (k0, 301, .inl (fun _ => 0))), (h5, .inl (k1, 301, .inl (fun _ => 0))), (h2, .inr (11, [.int (-1), .int 0, .int 0, .ref h6, .ref h7, .ref h8, .ref h9, .ref h10]))] sz) [(h2, .inr (11, [.int (-1), .int 0, .int 0, .ref h6, .ref h7, .ref h8, .ref h9, .ref h10])), (h1, .inr (10, [.ref h3, .int 0])), (h0, .inr (8, [.ref h4, .ref h5, .int 0, .int 0, .int 0, .int 0, .int 0])), (h4, .inl (k0, 301, .inl (upd (fun _ => 0) 0 23))), (h5, .inl (k1, 301, .inl (upd (fun _ => 0) 0 0)))]) (va_A [(h1, .inr (10, [.ref h3, .int 0])), (h0, .inr (8, [.ref h4, .ref h5, .int 0, .int 0, .int 0, .int 0, .int 0])), (h4, .inl (k0, 301, .inl (fun _ => 0))), (h5, .inl (k1, 301, .inl (fun _ => 0))), (h2, .inr (11, [.int (-1), .int 0, .int 0, .ref h6, .ref h7, .ref h8, .ref h9, .ref h10]))] sz)) 0 0 (va_A [(h1, .inr (10, [.ref h3, .int 0])), (h0, .inr (8, [.ref h4, .ref h5, .int 0, .int 0, .int 0, .int 0, .int 0])), (h4, .inl (k0, 301, .inl (fun _ => 0))), (h5, .inl (k1, 301, .inl (fun _ => 0))), (h2, .inr (11, [.int (-1), .int 0, .int 0, .ref h6, .ref h7, .ref h8, .ref h9, .ref h10]))] sz) := by
  refine Met.ofW (cc := cX7_read) (maxL := 4) (ret := none) (by decide) rfl ?_
  intro p e s m args below meth c s₁ B hml hv
  obtain ⟨rfl, hsz, hP, hK, hD0⟩ := hv
  have hx := B.exec
  have hb := B.bytes
  have hr := B.returns
  have hts := atoms_spec (ws := Cond.code yX7_read cX7_read 4 none :: wsL_law) B.pre
  have hws : ∀ w ∈ wsL_law, w.before _ s = true := fun w h => hts w (List.mem_cons_of_mem _ h)
  have hown : s.vm.findClass RX7 = some m.cls := findClass_of_methodNamed B.named
  have hlocks := B.notSynchronized
  subst hsz
  have hD := hD0.self (sz := s.heap.size)
  generalize hAe : va_A [(h1, .inr (10, [.ref h3, .int 0])), (h0, .inr (8, [.ref h4, .ref h5, .int 0, .int 0, .int 0, .int 0, .int 0])), (h4, .inl (k0, 301, .inl (fun _ => 0))), (h5, .inl (k1, 301, .inl (fun _ => 0))), (h2, .inr (11, [.int (-1), .int 0, .int 0, .ref h6, .ref h7, .ref h8, .ref h9, .ref h10]))] s.heap.size = A at hD ⊢
  have hA : ∀ q : Nat, s.heap.size ≤ q → A q := fun q h => by rw [← hAe]; exact Or.inr h
  have hS : va_S A s.heap s.heap [] := va_S.rf
  have hP : va_P (dC, dI) vwCl [(h1, .inr (10, [.ref h3, .int 0])), (h0, .inr (8, [.ref h4, .ref h5, .int 0, .int 0, .int 0, .int 0, .int 0])), (h4, .inl (k0, 301, .inl (fun _ => 0))), (h5, .inl (k1, 301, .inl (fun _ => 0))), (h2, .inr (11, [.int (-1), .int 0, .int 0, .ref h6, .ref h7, .ref h8, .ref h9, .ref h10]))] s.heap := hP
  have hl := lv_entry ([.ref h0, .ref h1, .ref h2]) (n := 4) (Nat.le_of_ble_eq_true rfl)
  rw [lg_entry_eq]
  generalize (lg_sl ([.ref h0, .ref h1, .ref h2]) ++ List.replicate (4 - (lg_sl ([.ref h0, .ref h1, .ref h2])).length) Slot.unset).toArray = ls at hl ⊢
  have hl : lv_has ls 4 [(0, .ref h0), (1, .ref h1), (2, .ref h2)] := hl
  refine lv_aload_n hx hb dX7_read_0 rfl (lv_at hl 0 rfl) ?_
  refine lv_aload_n hx hb dX7_read_1 rfl (lv_at hl 1 rfl) ?_
  have hPc := hP.sub (ws' := [(h1, .inr (10, [.ref h3, .int 0])), (h0, .inr (8, [.ref h4, .ref h5, .int 0, .int 0, .int 0, .int 0, .int 0])), (h4, .inl (k0, 301, .inl (fun _ => 0))), (h5, .inl (k1, 301, .inl (fun _ => 0)))]) [0, 1, 2, 3] rfl
  have hDc := hD.sub (ws' := [(h1, .inr (10, [.ref h3, .int 0])), (h0, .inr (8, [.ref h4, .ref h5, .int 0, .int 0, .int 0, .int 0, .int 0])), (h4, .inl (k0, 301, .inl (fun _ => 0))), (h5, .inl (k1, 301, .inl (fun _ => 0)))]) [0, 1, 2, 3] (by decide) rfl
  have hKc := hK.sub (tys' := [(k0, .int), (k1, .int)]) [0, 1] rfl
  have hFc := va_free (wc := [(h1, .inr (10, [.ref h3, .int 0])), (h0, .inr (8, [.ref h4, .ref h5, .int 0, .int 0, .int 0, .int 0, .int 0])), (h4, .inl (k0, 301, .inl (fun _ => 0))), (h5, .inl (k1, 301, .inl (fun _ => 0)))]) hD hS hA [0, 1, 2, 3] rfl
  refine va_callv (va_runV (As := [.ref h1]) (rest := []) ⟨hx, hb, hml, hown, hws⟩ (c_X7_scan_v1 l dC dI h0 h1 h3 h4 h5 k0 k1 s.heap.size) (cwV 1 hws (gw_V m_22_20 m_22_21 m_22_22 m_2_13 m_22_23) rfl rfl rfl (by decide +kernel) ⟨Nat.le_of_ble_eq_true rfl, Nat.le_of_ble_eq_true rfl⟩) ⟨fun a U g mk q => by obtain ⟨q0, q1, qP, qK, qD⟩ := q; exact ⟨q0, q1, qP, va_K.moved (u := U) (U := U.calling g mk a) (Vm.Alike.refl U.vm) qK, qD⟩, va_recv hKc hPc (ci := 8) (q0 := 1) rfl rfl, fun U hU hW => ⟨rfl, by rw [hU], by rw [hU]; exact hPc, va_K.moved hW.alike hKc, hDc.weaken (fun _ _ _ _ => trivial)⟩⟩ rfl rfl hl.1 rfl (lv_room (Nat.le_of_ble_eq_true rfl)) dX7_read_2 ⟨Nat.le_of_ble_eq_true rfl, Nat.le_of_ble_eq_true rfl⟩) hS (fun q _ h => hFc q h) hFc (fun u t H1 locs ht hvm hr_1 hB hz1 hk1 hS => ?_)
  obtain ⟨au_2, cu_2, gu_2, zu_2, ru_2, hP1, hK1, hD1⟩ := hB
  rw [ht] at hP1
  have hK1 := va_K.moved hvm.symm hK1
  obtain ⟨hP, hD⟩ := va_join (wr := [(h2, .inr (11, [.int (-1), .int 0, .int 0, .ref h6, .ref h7, .ref h8, .ref h9, .ref h10]))]) (w1 := [(h1, .inr (10, [.ref h3, .int 0])), (h0, .inr (8, [.ref h4, .ref h5, .int 0, .int 0, .int 0, .int 0, .int 0])), (h4, .inl (k0, 301, .inl (upd (fun _ => 0) 0 23))), (h5, .inl (k1, 301, .inl (upd (fun _ => 0) 0 0)))]) hP hD [0, 1, 2, 3] [4] rfl rfl (by decide) (by decide) hk1 hFc hP1 hD1
  have hK := (hK.sub (tys' := []) [] rfl).app hK1
  generalize H1 = H at hP hS ⊢
  have hP : va_P (dC, dI) vwCl [(h2, .inr (11, [.int (-1), .int 0, .int 0, .ref h6, .ref h7, .ref h8, .ref h9, .ref h10])), (h1, .inr (10, [.ref h3, .int 0])), (h0, .inr (8, [.ref h4, .ref h5, .int 0, .int 0, .int 0, .int 0, .int 0])), (h4, .inl (k0, 301, .inl (upd (fun _ => 0) 0 23))), (h5, .inl (k1, 301, .inl (upd (fun _ => 0) 0 0)))] H := hP
  have hD : va_D A [(h2, .inr (11, [.int (-1), .int 0, .int 0, .ref h6, .ref h7, .ref h8, .ref h9, .ref h10])), (h1, .inr (10, [.ref h3, .int 0])), (h0, .inr (8, [.ref h4, .ref h5, .int 0, .int 0, .int 0, .int 0, .int 0])), (h4, .inl (k0, 301, .inl (upd (fun _ => 0) 0 23))), (h5, .inl (k1, 301, .inl (upd (fun _ => 0) 0 0)))] := hD
  have hK : va_K (dC, dI) vwCl [(k0, .int), (k1, .int)] s := hK
  refine W.widen (k := 0) (n := 0) (Nat.le_of_ble_eq_true rfl) (Nat.le_of_ble_eq_true rfl) ?_
  refine lv_aload_n hx hb dX7_read_5 rfl (lv_at hl 0 rfl) ?_
  refine lv_iconst (v := 0) hx hb dX7_read_6 (by decide) ?_
  refine va_put (D := (dC, dI)) (ci := 8) (v := .int 0) (ty := .int) (C := RX7) (T := TX7) (N := 7) hx hb hws inlX7 tyX7 tyX7_ok nmX7 hown hK hP hD hS 2 rfl rfl 2 (by decide) (hws _ m_6_11) (fun _ h9 => h9) rfl (by decide +kernel) rfl rfl (Nat.le_of_ble_eq_true rfl) dX7_read_7 (fun H locs hP hD hS => ?_)
  have hP : va_P (dC, dI) vwCl [(h2, .inr (11, [.int (-1), .int 0, .int 0, .ref h6, .ref h7, .ref h8, .ref h9, .ref h10])), (h1, .inr (10, [.ref h3, .int 0])), (h0, .inr (8, [.ref h4, .ref h5, .int 0, .int 0, .int 0, .int 0, .int 0])), (h4, .inl (k0, 301, .inl (upd (fun _ => 0) 0 23))), (h5, .inl (k1, 301, .inl (upd (fun _ => 0) 0 0)))] H := hP
  have hD : va_D A [(h2, .inr (11, [.int (-1), .int 0, .int 0, .ref h6, .ref h7, .ref h8, .ref h9, .ref h10])), (h1, .inr (10, [.ref h3, .int 0])), (h0, .inr (8, [.ref h4, .ref h5, .int 0, .int 0, .int 0, .int 0, .int 0])), (h4, .inl (k0, 301, .inl (upd (fun _ => 0) 0 23))), (h5, .inl (k1, 301, .inl (upd (fun _ => 0) 0 0)))] := hD
  refine lv_aload_n hx hb dX7_read_10 rfl (lv_at hl 0 rfl) ?_
  refine lv_iconst (v := 0) hx hb dX7_read_11 (by decide) ?_
  refine va_put (D := (dC, dI)) (ci := 8) (v := .int 0) (ty := .int) (C := RX7) (T := TX7) (N := 7) hx hb hws inlX7 tyX7 tyX7_ok nmX7 hown hK hP hD hS 2 rfl rfl 3 (by decide) (hws _ m_6_12) (fun _ h9 => h9) rfl (by decide +kernel) rfl rfl (Nat.le_of_ble_eq_true rfl) dX7_read_12 (fun H locs hP hD hS => ?_)
  have hP : va_P (dC, dI) vwCl [(h2, .inr (11, [.int (-1), .int 0, .int 0, .ref h6, .ref h7, .ref h8, .ref h9, .ref h10])), (h1, .inr (10, [.ref h3, .int 0])), (h0, .inr (8, [.ref h4, .ref h5, .int 0, .int 0, .int 0, .int 0, .int 0])), (h4, .inl (k0, 301, .inl (upd (fun _ => 0) 0 23))), (h5, .inl (k1, 301, .inl (upd (fun _ => 0) 0 0)))] H := hP
  have hD : va_D A [(h2, .inr (11, [.int (-1), .int 0, .int 0, .ref h6, .ref h7, .ref h8, .ref h9, .ref h10])), (h1, .inr (10, [.ref h3, .int 0])), (h0, .inr (8, [.ref h4, .ref h5, .int 0, .int 0, .int 0, .int 0, .int 0])), (h4, .inl (k0, 301, .inl (upd (fun _ => 0) 0 23))), (h5, .inl (k1, 301, .inl (upd (fun _ => 0) 0 0)))] := hD
  refine lv_aload_n hx hb dX7_read_15 rfl (lv_at hl 0 rfl) ?_
  refine lv_iconst (v := 0) hx hb dX7_read_16 (by decide) ?_
  refine va_put (D := (dC, dI)) (ci := 8) (v := .int 0) (ty := .boolean) (C := RX7) (T := TX7) (N := 7) hx hb hws inlX7 tyX7 tyX7_ok nmX7 hown hK hP hD hS 2 rfl rfl 4 (by decide) (hws _ m_6_13) (fun _ h9 => h9) rfl (by decide +kernel) rfl rfl (Nat.le_of_ble_eq_true rfl) dX7_read_17 (fun H locs hP hD hS => ?_)
  have hP : va_P (dC, dI) vwCl [(h2, .inr (11, [.int (-1), .int 0, .int 0, .ref h6, .ref h7, .ref h8, .ref h9, .ref h10])), (h1, .inr (10, [.ref h3, .int 0])), (h0, .inr (8, [.ref h4, .ref h5, .int 0, .int 0, .int 0, .int 0, .int 0])), (h4, .inl (k0, 301, .inl (upd (fun _ => 0) 0 23))), (h5, .inl (k1, 301, .inl (upd (fun _ => 0) 0 0)))] H := hP
  have hD : va_D A [(h2, .inr (11, [.int (-1), .int 0, .int 0, .ref h6, .ref h7, .ref h8, .ref h9, .ref h10])), (h1, .inr (10, [.ref h3, .int 0])), (h0, .inr (8, [.ref h4, .ref h5, .int 0, .int 0, .int 0, .int 0, .int 0])), (h4, .inl (k0, 301, .inl (upd (fun _ => 0) 0 23))), (h5, .inl (k1, 301, .inl (upd (fun _ => 0) 0 0)))] := hD
  refine lv_aload_n hx hb dX7_read_20 rfl (lv_at hl 0 rfl) ?_
  refine lv_iconst (v := 0) hx hb dX7_read_21 (by decide) ?_
  refine va_put (D := (dC, dI)) (ci := 8) (v := .int 0) (ty := .int) (C := RX7) (T := TX7) (N := 7) hx hb hws inlX7 tyX7 tyX7_ok nmX7 hown hK hP hD hS 2 rfl rfl 5 (by decide) (hws _ m_6_14) (fun _ h9 => h9) rfl (by decide +kernel) rfl rfl (Nat.le_of_ble_eq_true rfl) dX7_read_22 (fun H locs hP hD hS => ?_)
  have hP : va_P (dC, dI) vwCl [(h2, .inr (11, [.int (-1), .int 0, .int 0, .ref h6, .ref h7, .ref h8, .ref h9, .ref h10])), (h1, .inr (10, [.ref h3, .int 0])), (h0, .inr (8, [.ref h4, .ref h5, .int 0, .int 0, .int 0, .int 0, .int 0])), (h4, .inl (k0, 301, .inl (upd (fun _ => 0) 0 23))), (h5, .inl (k1, 301, .inl (upd (fun _ => 0) 0 0)))] H := hP
  have hD : va_D A [(h2, .inr (11, [.int (-1), .int 0, .int 0, .ref h6, .ref h7, .ref h8, .ref h9, .ref h10])), (h1, .inr (10, [.ref h3, .int 0])), (h0, .inr (8, [.ref h4, .ref h5, .int 0, .int 0, .int 0, .int 0, .int 0])), (h4, .inl (k0, 301, .inl (upd (fun _ => 0) 0 23))), (h5, .inl (k1, 301, .inl (upd (fun _ => 0) 0 0)))] := hD
  refine lv_aload_n hx hb dX7_read_25 rfl (lv_at hl 0 rfl) ?_
  refine lv_iconst (v := 0) hx hb dX7_read_26 (by decide) ?_
  refine va_put (D := (dC, dI)) (ci := 8) (v := .int 0) (ty := .int) (C := RX7) (T := TX7) (N := 7) hx hb hws inlX7 tyX7 tyX7_ok nmX7 hown hK hP hD hS 2 rfl rfl 6 (by decide) (hws _ m_6_15) (fun _ h9 => h9) rfl (by decide +kernel) rfl rfl (Nat.le_of_ble_eq_true rfl) dX7_read_27 (fun H locs hP hD hS => ?_)
  have hP : va_P (dC, dI) vwCl [(h2, .inr (11, [.int (-1), .int 0, .int 0, .ref h6, .ref h7, .ref h8, .ref h9, .ref h10])), (h1, .inr (10, [.ref h3, .int 0])), (h0, .inr (8, [.ref h4, .ref h5, .int 0, .int 0, .int 0, .int 0, .int 0])), (h4, .inl (k0, 301, .inl (upd (fun _ => 0) 0 23))), (h5, .inl (k1, 301, .inl (upd (fun _ => 0) 0 0)))] H := hP
  have hD : va_D A [(h2, .inr (11, [.int (-1), .int 0, .int 0, .ref h6, .ref h7, .ref h8, .ref h9, .ref h10])), (h1, .inr (10, [.ref h3, .int 0])), (h0, .inr (8, [.ref h4, .ref h5, .int 0, .int 0, .int 0, .int 0, .int 0])), (h4, .inl (k0, 301, .inl (upd (fun _ => 0) 0 23))), (h5, .inl (k1, 301, .inl (upd (fun _ => 0) 0 0)))] := hD
  refine lv_aload_n hx hb dX7_read_30 rfl (lv_at hl 2 rfl) ?_
  refine lv_iconst (v := 0) hx hb dX7_read_31 (by decide) ?_
  refine va_put (D := (dC, dI)) (ci := 11) (v := .int 0) (ty := .int) (C := RX10) (T := TX10) (N := 8) hx hb hws inlX10 tyX10 tyX10_ok nmX10 hown hK hP hD hS 0 rfl rfl 1 (by decide) (hws _ m_22_17) (fun _ h9 => h9) rfl (by decide +kernel) rfl rfl (Nat.le_of_ble_eq_true rfl) dX7_read_32 (fun H locs hP hD hS => ?_)
  have hP : va_P (dC, dI) vwCl [(h2, .inr (11, [.int (-1), .int 0, .int 0, .ref h6, .ref h7, .ref h8, .ref h9, .ref h10])), (h1, .inr (10, [.ref h3, .int 0])), (h0, .inr (8, [.ref h4, .ref h5, .int 0, .int 0, .int 0, .int 0, .int 0])), (h4, .inl (k0, 301, .inl (upd (fun _ => 0) 0 23))), (h5, .inl (k1, 301, .inl (upd (fun _ => 0) 0 0)))] H := hP
  have hD : va_D A [(h2, .inr (11, [.int (-1), .int 0, .int 0, .ref h6, .ref h7, .ref h8, .ref h9, .ref h10])), (h1, .inr (10, [.ref h3, .int 0])), (h0, .inr (8, [.ref h4, .ref h5, .int 0, .int 0, .int 0, .int 0, .int 0])), (h4, .inl (k0, 301, .inl (upd (fun _ => 0) 0 23))), (h5, .inl (k1, 301, .inl (upd (fun _ => 0) 0 0)))] := hD
  refine lv_aload_n hx hb dX7_read_35 rfl (lv_at hl 2 rfl) ?_
  refine lv_iconst (v := 0) hx hb dX7_read_36 (by decide) ?_
  refine va_put (D := (dC, dI)) (ci := 11) (v := .int 0) (ty := .int) (C := RX10) (T := TX10) (N := 8) hx hb hws inlX10 tyX10 tyX10_ok nmX10 hown hK hP hD hS 0 rfl rfl 2 (by decide) (hws _ m_22_18) (fun _ h9 => h9) rfl (by decide +kernel) rfl rfl (Nat.le_of_ble_eq_true rfl) dX7_read_37 (fun H locs hP hD hS => ?_)
  have hP : va_P (dC, dI) vwCl [(h2, .inr (11, [.int (-1), .int 0, .int 0, .ref h6, .ref h7, .ref h8, .ref h9, .ref h10])), (h1, .inr (10, [.ref h3, .int 0])), (h0, .inr (8, [.ref h4, .ref h5, .int 0, .int 0, .int 0, .int 0, .int 0])), (h4, .inl (k0, 301, .inl (upd (fun _ => 0) 0 23))), (h5, .inl (k1, 301, .inl (upd (fun _ => 0) 0 0)))] H := hP
  have hD : va_D A [(h2, .inr (11, [.int (-1), .int 0, .int 0, .ref h6, .ref h7, .ref h8, .ref h9, .ref h10])), (h1, .inr (10, [.ref h3, .int 0])), (h0, .inr (8, [.ref h4, .ref h5, .int 0, .int 0, .int 0, .int 0, .int 0])), (h4, .inl (k0, 301, .inl (upd (fun _ => 0) 0 23))), (h5, .inl (k1, 301, .inl (upd (fun _ => 0) 0 0)))] := hD
  refine lv_iconst (v := 0) hx hb dX7_read_40 (by decide) ?_
  refine lv_istore_n (lv' := [(3, .int 0), (0, .ref h0), (1, .ref h1), (2, .ref h2)]) hx hb dX7_read_41 rfl hl (by decide) rfl (fun ls hl => ?_)
  refine lv_iload_n hx hb dX7_read_42 rfl (lv_at hl 0 rfl) ?_
  refine lv_bipush (v := 16) hx hb dX7_read_43 (by decide) ?_
  refine lv_icmp_gt (tgt := 75) hx hb dX7_read_45 (by decide) (fun c_3 => absurd c_3 (by decide)) (fun _ => ?_)
  refine lv_aload_n hx hb dX7_read_48 rfl (lv_at hl 1 rfl) ?_
  refine va_get (D := (dC, dI)) (ci := 8) (v := .int 0) (C := RX7) (T := TX7) (N := 7) hx hb hws inlX7 hown hK hP 2 rfl rfl 5 (by decide) (hws _ m_6_14) (fun _ h9 => h9) rfl dX7_read_49 ?_
  refine lv_if_ne (tgt := 75) hx hb dX7_read_52 (by decide) (fun c_4 => absurd (by decide) c_4) (fun _ => ?_)
  refine lv_aload_n hx hb dX7_read_55 rfl (lv_at hl 1 rfl) ?_
  have hPc := hP.sub (ws' := [(h0, .inr (8, [.ref h4, .ref h5, .int 0, .int 0, .int 0, .int 0, .int 0])), (h4, .inl (k0, 301, .inl (upd (fun _ => 0) 0 23)))]) [2, 3] rfl
  have hDc := hD.sub (ws' := [(h0, .inr (8, [.ref h4, .ref h5, .int 0, .int 0, .int 0, .int 0, .int 0])), (h4, .inl (k0, 301, .inl (upd (fun _ => 0) 0 23)))]) [2, 3] (by decide) rfl
  have hKc := hK.sub (tys' := [(k0, .int)]) [0] rfl
  refine vp_callSi (W.runV (As := []) (rest := []) ⟨hx, hb, hml, hown, hws⟩ (c_X7_now_v1 l dC dI h0 h4 h5 k0 H.size) (cwV 0 hws (gw_V m_25_21 m_25_22 m_25_23 m_2_13 m_26_0) rfl rfl rfl (by decide +kernel) ⟨Nat.le_of_ble_eq_true rfl, Nat.le_of_ble_eq_true rfl⟩) ⟨fun a U g mk q => by obtain ⟨q0, q1, qP, qK, qD⟩ := q; exact ⟨q0, q1, qP, va_K.moved (u := U) (U := U.calling g mk a) (Vm.Alike.refl U.vm) qK, qD⟩, va_recv hKc hPc (ci := 8) (q0 := 0) rfl rfl, fun U hU hW => ⟨rfl, by rw [hU], by rw [hU]; exact hPc, va_K.moved hW.alike hKc, hDc.weaken (fun _ _ _ _ => trivial)⟩⟩ rfl rfl hl.1 rfl (lv_room (Nat.le_of_ble_eq_true rfl)) dX7_read_56 ⟨Nat.le_of_ble_eq_true rfl, Nat.le_of_ble_eq_true rfl⟩) (fun r_5 hr_5 => ?_)
  obtain rfl := hr_5
  refine lv_bipush (v := 23) hx hb dX7_read_59 (by decide) ?_
  refine lv_icmp_eq (tgt := 75) hx hb dX7_read_61 (by decide) (fun _ => ?_) (fun c_6 => absurd (by decide) c_6)
  refine lv_aload_n hx hb dX7_read_75 rfl (lv_at hl 2 rfl) ?_
  refine va_get (D := (dC, dI)) (ci := 10) (v := .int 0) (C := RX9) (T := TX9) (N := 2) hx hb hws inlX9 hown hK hP 1 rfl rfl 1 (by decide) (hws _ m_22_19) (fun _ h9 => h9) rfl dX7_read_76 ?_
  refine lv_sipush (v := 300) hx hb dX7_read_79 (by decide) ?_
  refine lv_icmp_le (tgt := 90) hx hb dX7_read_82 (by decide) (fun _ => ?_) (fun c_7 => absurd (by decide) c_7)
  have hK9 := hK.sub (tys' := [(k0, .int), (k1, .int)]) [0, 1] rfl
  exact W.vret hx hb hr (fun t ht hW => ⟨⟨(), rfl, trivial, ⟨(fun k9 => ([] : List (Nat)).getD k9 0), (fun k9 => ([] : List ClassId).getD k9 default), (fun k9 => ([] : List (Nat → Int32)).getD k9 (fun _ => 0)), (fun k9 => ([] : List (Int32)).getD k9 0), (fun k9 => ([] : List (Nat → Nat)).getD k9 (fun _ => 0)), by rw [ht]; exact hP, va_K.moved hW.alike hK9, hD⟩⟩, hS.F ht⟩) hS.2.2 dX7_read_90

set_option maxHeartbeats 4000000 in
set_option maxRecDepth 100000 in
theorem c_Jx4a65c_add_72be8_v3 (l : Launch) (dC : Nat → ClassId) (dI : Nat → Nat → Nat) (h0 : Nat) (h1 : Nat) (t0 : Nat) (p0 : Int32) (h2 : Nat) (h3 : Nat) (h4 : Nat) (h5 : Nat) (h6 : Nat) (sz : Nat) : Met l yJx4a65c_add_72be8 (Cond.code yJx4a65c_add_72be8 cJx4a65c_add_72be8 4 none :: wsL_law) ({ frames := 3, cells := 1, slots := 10, locals := 57 }) (va_Pc [.ref h0, .ref h1, .ref t0, .int 0] (fun U => U.heap.size = sz ∧ va_P (dC, dI) vwCl [(h0, .inr (0, [.int 1, .ref t0, .int 0])), (h1, .inr (11, [.int p0, .int 0, .int 0, .ref h2, .ref h3, .ref h4, .ref h5, .ref h6]))] U.heap ∧ va_K (dC, dI) vwCl [] U ∧ va_D (fun _ => True) [(h0, .inr (0, [.int 1, .ref t0, .int 0])), (h1, .inr (11, [.int p0, .int 0, .int 0, .ref h2, .ref h3, .ref h4, .ref h5, .ref h6]))] ∧ nst U ∧ als t0 (va_A [(h0, .inr (0, [.int 1, .ref t0, .int 0])), (h1, .inr (11, [.int p0, .int 0, .int 0, .ref h2, .ref h3, .ref h4, .ref h5, .ref h6]))] sz) U U.heap)) (va_Qv (fun (_ : Unit) => True) (fun (_ : Unit) (t : State) => ∃ (qa : Nat → Nat) (qc : Nat → ClassId) (qg : Nat → Nat → Int32) (qz : Nat → Int32) (qr : Nat → Nat → Nat) (qo : Nat → Nat → Option Nat), va_P (dC, dI) vwCl [(h1, .inr (11, [.int p0, .int 0, .int 0, .ref h2, .ref h3, .ref h4, .ref h5, .ref h6])), (h0, .inr (0, [.int 1, .ref (qa 0), .int 1])), ((qa 0), .inl ((qc 0), 10, .inr (.inr (.inr (.inr (qo 0))))))] t.heap ∧ va_K (dC, dI) vwCl [((qc 0), .object "java/lang/Object")] t ∧ va_D (va_A [(h0, .inr (0, [.int 1, .ref t0, .int 0])), (h1, .inr (11, [.int p0, .int 0, .int 0, .ref h2, .ref h3, .ref h4, .ref h5, .ref h6]))] sz) [(h1, .inr (11, [.int p0, .int 0, .int 0, .ref h2, .ref h3, .ref h4, .ref h5, .ref h6])), (h0, .inr (0, [.int 1, .ref (qa 0), .int 1])), ((qa 0), .inl ((qc 0), 10, .inr (.inr (.inr (.inr (qo 0))))))]) (va_A [(h0, .inr (0, [.int 1, .ref t0, .int 0])), (h1, .inr (11, [.int p0, .int 0, .int 0, .ref h2, .ref h3, .ref h4, .ref h5, .ref h6]))] sz)) 1 10 (va_A [(h0, .inr (0, [.int 1, .ref t0, .int 0])), (h1, .inr (11, [.int p0, .int 0, .int 0, .ref h2, .ref h3, .ref h4, .ref h5, .ref h6]))] sz) := by
  refine Met.ofW (cc := cJx4a65c_add_72be8) (maxL := 4) (ret := none) (by decide) rfl ?_
  intro p e s m args below meth c s₁ B hml hv
  obtain ⟨rfl, hsz, hP, hK, hD0, hNst, hAl⟩ := hv
  have hx := B.exec
  have hb := B.bytes
  have hr := B.returns
  have hts := atoms_spec (ws := Cond.code yJx4a65c_add_72be8 cJx4a65c_add_72be8 4 none :: wsL_law) B.pre
  have hws : ∀ w ∈ wsL_law, w.before _ s = true := fun w h => hts w (List.mem_cons_of_mem _ h)
  have hown : s.vm.findClass RJx4a65c = some m.cls := findClass_of_methodNamed B.named
  have hlocks := B.notSynchronized
  subst hsz
  have hD := hD0.self (sz := s.heap.size)
  generalize hAe : va_A [(h0, .inr (0, [.int 1, .ref t0, .int 0])), (h1, .inr (11, [.int p0, .int 0, .int 0, .ref h2, .ref h3, .ref h4, .ref h5, .ref h6]))] s.heap.size = A at hD hAl ⊢
  have hA : ∀ q : Nat, s.heap.size ≤ q → A q := fun q h => by rw [← hAe]; exact Or.inr h
  have hS : va_S A s.heap s.heap [] := va_S.rf
  have hP : va_P (dC, dI) vwCl [(h0, .inr (0, [.int 1, .ref t0, .int 0])), (h1, .inr (11, [.int p0, .int 0, .int 0, .ref h2, .ref h3, .ref h4, .ref h5, .ref h6]))] s.heap := hP
  have hl := lv_entry ([.ref h0, .ref h1, .ref t0, .int 0]) (n := 4) (Nat.le_of_ble_eq_true rfl)
  rw [lg_entry_eq]
  generalize (lg_sl ([.ref h0, .ref h1, .ref t0, .int 0]) ++ List.replicate (4 - (lg_sl ([.ref h0, .ref h1, .ref t0, .int 0])).length) Slot.unset).toArray = ls at hl ⊢
  have hl : lv_has ls 4 [(0, .ref h0), (1, .ref h1), (2, .ref t0), (3, .int 0)] := hl
  refine lv_iload_n hx hb dJx4a65c_add_72be8_0 rfl (lv_at hl 3 rfl) ?_
  refine lv_aload_n hx hb dJx4a65c_add_72be8_1 rfl (lv_at hl 2 rfl) ?_
  refine va_tlen hx hb hAl.2 hS (v := 0) (by decide) dJx4a65c_add_72be8_2 ?_
  refine lv_icmp_ne (tgt := 11) hx hb dJx4a65c_add_72be8_3 (by decide) (fun c_1 => absurd (by decide) c_1) (fun _ => ?_)
  refine lv_aload_n hx hb dJx4a65c_add_72be8_6 rfl (lv_at hl 0 rfl) ?_
  have hPc := hP.sub (ws' := [(h0, .inr (0, [.int 1, .ref t0, .int 0]))]) [0] rfl
  have hDc := hD.sub (ws' := [(h0, .inr (0, [.int 1, .ref t0, .int 0]))]) [0] (by decide) rfl
  have hKc := hK.sub (tys' := []) [] rfl
  have hFc := va_free (wc := [(h0, .inr (0, [.int 1, .ref t0, .int 0]))]) hD hS hA [0] rfl
  refine va_callr (va_runV (As := []) (rest := []) ⟨hx, hb, hml, hown, hws⟩ (c_Jx4a65c_grow_d5877_v1 l dC dI h0 t0 s.heap.size) (cwV 0 hws (gw_V m_13_13 m_13_14 m_13_15 m_2_5 m_13_16) rfl rfl rfl (by decide +kernel) ⟨Nat.le_of_ble_eq_true rfl, Nat.le_of_ble_eq_true rfl⟩) ⟨fun a U g mk q => by obtain ⟨q0, q1, qP, qK, qD, qN, qA⟩ := q; exact ⟨q0, q1, qP, va_K.moved (u := U) (U := U.calling g mk a) (Vm.Alike.refl U.vm) qK, qD, nst_same rfl qN, als.moved (u := U) (U := U.calling g mk a) (Vm.Alike.refl U.vm) qA⟩, va_recv hKc hPc (ci := 0) (q0 := 0) rfl rfl, fun U hU hW => ⟨rfl, by rw [hU], by rw [hU]; exact hPc, va_K.moved hW.alike hKc, hDc.weaken (fun _ _ _ _ => trivial), nst_warm hW hNst, by rw [hU]; exact ((hAl.kept (H1 := s.heap) (fun a ha hn => hS.2.1 a ha hn)).narrow hFc).moved hW.alike⟩⟩ rfl rfl hl.1 rfl (lv_room (Nat.le_of_ble_eq_true rfl)) dJx4a65c_add_72be8_7 ⟨Nat.le_of_ble_eq_true rfl, Nat.le_of_ble_eq_true rfl⟩) hS (fun q _ h => hFc q h) hFc (fun u ra t H1 locs ht hvm hr_2 hB hz1 hk1 hS => ?_)
  obtain ⟨au_3, cu_3, gu_3, zu_3, ru_3, rfl, hP1, hK1, hD1⟩ := hB
  rw [ht] at hP1
  have hK1 := va_K.moved hvm.symm hK1
  obtain ⟨hP, hD⟩ := va_join (wr := [(h1, .inr (11, [.int p0, .int 0, .int 0, .ref h2, .ref h3, .ref h4, .ref h5, .ref h6]))]) (w1 := [(h0, .inr (0, [.int 1, .ref (au_3 0), .int 0])), ((au_3 0), .inl ((cu_3 0), 10, .inr (.inr (.inr (.inr (fun _ => none))))))]) hP hD [0] [1] rfl rfl (by decide) (by decide) hk1 hFc hP1 hD1
  have hK := (hK.sub (tys' := []) [] rfl).app hK1
  generalize H1 = H at hP hS ⊢
  have hP : va_P (dC, dI) vwCl [(h1, .inr (11, [.int p0, .int 0, .int 0, .ref h2, .ref h3, .ref h4, .ref h5, .ref h6])), (h0, .inr (0, [.int 1, .ref (au_3 0), .int 0])), ((au_3 0), .inl ((cu_3 0), 10, .inr (.inr (.inr (.inr (fun _ => none))))))] H := hP
  have hD : va_D A [(h1, .inr (11, [.int p0, .int 0, .int 0, .ref h2, .ref h3, .ref h4, .ref h5, .ref h6])), (h0, .inr (0, [.int 1, .ref (au_3 0), .int 0])), ((au_3 0), .inl ((cu_3 0), 10, .inr (.inr (.inr (.inr (fun _ => none))))))] := hD
  have hK : va_K (dC, dI) vwCl [((cu_3 0), .object "java/lang/Object")] s := hK
  refine W.widen (k := 1) (n := 10) (Nat.le_of_ble_eq_true rfl) (Nat.le_of_ble_eq_true rfl) ?_
  refine lv_astore_n (lv' := [(2, .ref (au_3 0)), (0, .ref h0), (1, .ref h1), (3, .int 0)]) hx hb dJx4a65c_add_72be8_10 rfl hl (by decide) rfl (fun ls hl => ?_)
  refine lv_aload_n hx hb dJx4a65c_add_72be8_11 rfl (lv_at hl 0 rfl) ?_
  refine lv_iload_n hx hb dJx4a65c_add_72be8_12 rfl (lv_at hl 3 rfl) ?_
  refine lv_aload_n hx hb dJx4a65c_add_72be8_13 rfl (lv_at hl 2 rfl) ?_
  refine va_astqO (E := "java/lang/Object") hx hb hK hP hD hS 2 0 0 11 rfl rfl hNst.2.2.2.2 rfl rfl (vin_c (by decide)) dJx4a65c_add_72be8_14 (fun H locs hP hD hS => ?_)
  generalize va_up (fun _ => none) (Int32.toNatClampNeg 0) (some h1) = o_4 at hP hD
  have hP : va_P (dC, dI) vwCl [(h1, .inr (11, [.int p0, .int 0, .int 0, .ref h2, .ref h3, .ref h4, .ref h5, .ref h6])), (h0, .inr (0, [.int 1, .ref (au_3 0), .int 0])), ((au_3 0), .inl ((cu_3 0), 10, .inr (.inr (.inr (.inr o_4)))))] H := hP
  have hD : va_D A [(h1, .inr (11, [.int p0, .int 0, .int 0, .ref h2, .ref h3, .ref h4, .ref h5, .ref h6])), (h0, .inr (0, [.int 1, .ref (au_3 0), .int 0])), ((au_3 0), .inl ((cu_3 0), 10, .inr (.inr (.inr (.inr o_4)))))] := hD
  refine lv_aload_n hx hb dJx4a65c_add_72be8_15 rfl (lv_at hl 1 rfl) ?_
  refine lv_iload_n hx hb dJx4a65c_add_72be8_16 rfl (lv_at hl 3 rfl) ?_
  refine lv_iconst (v := 1) hx hb dJx4a65c_add_72be8_17 (by decide) ?_
  refine lv_iadd hx hb dJx4a65c_add_72be8_18 ?_
  refine lv_topi (fun x_5 ex_5 => ?_)
  obtain rfl : x_5 = 1 := ex_5.trans (by decide)
  refine va_put (D := (dC, dI)) (ci := 0) (v := .int 1) (ty := .int) (C := RJx4a65c) (T := TJx4a65c) (N := 3) hx hb hws inlJx4a65c tyJx4a65c tyJx4a65c_ok nmJx4a65c hown hK hP hD hS 1 rfl rfl 2 (by decide) (hws _ m_12_7) (fun _ h9 => h9) rfl (by decide +kernel) rfl rfl (Nat.le_of_ble_eq_true rfl) dJx4a65c_add_72be8_19 (fun H locs hP hD hS => ?_)
  have hP : va_P (dC, dI) vwCl [(h1, .inr (11, [.int p0, .int 0, .int 0, .ref h2, .ref h3, .ref h4, .ref h5, .ref h6])), (h0, .inr (0, [.int 1, .ref (au_3 0), .int 1])), ((au_3 0), .inl ((cu_3 0), 10, .inr (.inr (.inr (.inr o_4)))))] H := hP
  have hD : va_D A [(h1, .inr (11, [.int p0, .int 0, .int 0, .ref h2, .ref h3, .ref h4, .ref h5, .ref h6])), (h0, .inr (0, [.int 1, .ref (au_3 0), .int 1])), ((au_3 0), .inl ((cu_3 0), 10, .inr (.inr (.inr (.inr o_4)))))] := hD
  have hK9 := hK.sub (tys' := [((cu_3 0), .object "java/lang/Object")]) [0] rfl
  exact W.vret hx hb hr (fun t ht hW => ⟨⟨(), rfl, trivial, ⟨(fun k9 => ([(au_3 0)] : List (Nat)).getD k9 0), (fun k9 => ([(cu_3 0)] : List ClassId).getD k9 default), (fun k9 => ([] : List (Nat → Int32)).getD k9 (fun _ => 0)), (fun k9 => ([] : List (Int32)).getD k9 0), (fun k9 => ([] : List (Nat → Nat)).getD k9 (fun _ => 0)), (fun k9 => ([o_4] : List (Nat → Option Nat)).getD k9 (fun _ => none)), by rw [ht]; exact hP, va_K.moved hW.alike hK9, hD⟩⟩, hS.F ht⟩) hS.2.2 dJx4a65c_add_72be8_22

set_option maxHeartbeats 4000000 in
set_option maxRecDepth 100000 in
theorem c_Jx4a65c_add_9ea2d_v3 (l : Launch) (dC : Nat → ClassId) (dI : Nat → Nat → Nat) (h0 : Nat) (h1 : Nat) (t0 : Nat) (p0 : Int32) (h2 : Nat) (h3 : Nat) (h4 : Nat) (h5 : Nat) (h6 : Nat) (sz : Nat) : Met l yJx4a65c_add_9ea2d (Cond.code yJx4a65c_add_9ea2d cJx4a65c_add_9ea2d 2 (some .boolean) :: wsL_law) ({ frames := 4, cells := 1, slots := 10, locals := 80 }) (va_Pc [.ref h0, .ref h1] (fun U => U.heap.size = sz ∧ va_P (dC, dI) vwCl [(h0, .inr (0, [.int 0, .ref t0, .int 0])), (h1, .inr (11, [.int p0, .int 0, .int 0, .ref h2, .ref h3, .ref h4, .ref h5, .ref h6]))] U.heap ∧ va_K (dC, dI) vwCl [] U ∧ va_D (fun _ => True) [(h0, .inr (0, [.int 0, .ref t0, .int 0])), (h1, .inr (11, [.int p0, .int 0, .int 0, .ref h2, .ref h3, .ref h4, .ref h5, .ref h6]))] ∧ nst U ∧ als t0 (va_A [(h0, .inr (0, [.int 0, .ref t0, .int 0])), (h1, .inr (11, [.int p0, .int 0, .int 0, .ref h2, .ref h3, .ref h4, .ref h5, .ref h6]))] sz) U U.heap)) (va_Qi (fun (r : Int32) (_ : Unit) => r = 1) (fun (_ : Unit) (t : State) => ∃ (qa : Nat → Nat) (qc : Nat → ClassId) (qg : Nat → Nat → Int32) (qz : Nat → Int32) (qr : Nat → Nat → Nat) (qo : Nat → Nat → Option Nat), va_P (dC, dI) vwCl [(h1, .inr (11, [.int p0, .int 0, .int 0, .ref h2, .ref h3, .ref h4, .ref h5, .ref h6])), (h0, .inr (0, [.int 1, .ref (qa 0), .int 1])), ((qa 0), .inl ((qc 0), 10, .inr (.inr (.inr (.inr (qo 0))))))] t.heap ∧ va_K (dC, dI) vwCl [((qc 0), .object "java/lang/Object")] t ∧ va_D (va_A [(h0, .inr (0, [.int 0, .ref t0, .int 0])), (h1, .inr (11, [.int p0, .int 0, .int 0, .ref h2, .ref h3, .ref h4, .ref h5, .ref h6]))] sz) [(h1, .inr (11, [.int p0, .int 0, .int 0, .ref h2, .ref h3, .ref h4, .ref h5, .ref h6])), (h0, .inr (0, [.int 1, .ref (qa 0), .int 1])), ((qa 0), .inl ((qc 0), 10, .inr (.inr (.inr (.inr (qo 0))))))]) (va_A [(h0, .inr (0, [.int 0, .ref t0, .int 0])), (h1, .inr (11, [.int p0, .int 0, .int 0, .ref h2, .ref h3, .ref h4, .ref h5, .ref h6]))] sz)) 1 10 (va_A [(h0, .inr (0, [.int 0, .ref t0, .int 0])), (h1, .inr (11, [.int p0, .int 0, .int 0, .ref h2, .ref h3, .ref h4, .ref h5, .ref h6]))] sz) := by
  refine Met.ofW (cc := cJx4a65c_add_9ea2d) (maxL := 2) (ret := (some .boolean)) (by decide) rfl ?_
  intro p e s m args below meth c s₁ B hml hv
  obtain ⟨rfl, hsz, hP, hK, hD0, hNst, hAl⟩ := hv
  have hx := B.exec
  have hb := B.bytes
  have hr := B.returns
  have hts := atoms_spec (ws := Cond.code yJx4a65c_add_9ea2d cJx4a65c_add_9ea2d 2 (some .boolean) :: wsL_law) B.pre
  have hws : ∀ w ∈ wsL_law, w.before _ s = true := fun w h => hts w (List.mem_cons_of_mem _ h)
  have hown : s.vm.findClass RJx4a65c = some m.cls := findClass_of_methodNamed B.named
  have hlocks := B.notSynchronized
  subst hsz
  have hD := hD0.self (sz := s.heap.size)
  generalize hAe : va_A [(h0, .inr (0, [.int 0, .ref t0, .int 0])), (h1, .inr (11, [.int p0, .int 0, .int 0, .ref h2, .ref h3, .ref h4, .ref h5, .ref h6]))] s.heap.size = A at hD hAl ⊢
  have hA : ∀ q : Nat, s.heap.size ≤ q → A q := fun q h => by rw [← hAe]; exact Or.inr h
  have hS : va_S A s.heap s.heap [] := va_S.rf
  have hP : va_P (dC, dI) vwCl [(h0, .inr (0, [.int 0, .ref t0, .int 0])), (h1, .inr (11, [.int p0, .int 0, .int 0, .ref h2, .ref h3, .ref h4, .ref h5, .ref h6]))] s.heap := hP
  have hl := lv_entry ([.ref h0, .ref h1]) (n := 2) (Nat.le_of_ble_eq_true rfl)
  rw [lg_entry_eq]
  generalize (lg_sl ([.ref h0, .ref h1]) ++ List.replicate (2 - (lg_sl ([.ref h0, .ref h1])).length) Slot.unset).toArray = ls at hl ⊢
  have hl : lv_has ls 2 [(0, .ref h0), (1, .ref h1)] := hl
  refine lv_aload_n hx hb dJx4a65c_add_9ea2d_0 rfl (lv_at hl 0 rfl) ?_
  refine lv_dup hx hb dJx4a65c_add_9ea2d_1 rfl ?_
  refine va_get (D := (dC, dI)) (ci := 0) (v := .int 0) (C := RJx4a65c) (T := TJx4a65c) (N := 3) hx hb hws inlJx4a65c hown hK hP 0 rfl rfl 0 (by decide) (hws _ m_13_7) (fun x9 h9 => u_same (hws _ m_13_8) x9 h9) rfl dJx4a65c_add_9ea2d_2 ?_
  refine lv_iconst (v := 1) hx hb dJx4a65c_add_9ea2d_5 (by decide) ?_
  refine lv_iadd hx hb dJx4a65c_add_9ea2d_6 ?_
  refine lv_topi (fun x_1 ex_1 => ?_)
  obtain rfl : x_1 = 1 := ex_1.trans (by decide)
  refine va_put (D := (dC, dI)) (ci := 0) (v := .int 1) (ty := .int) (C := RJx4a65c) (T := TJx4a65c) (N := 3) hx hb hws inlJx4a65c tyJx4a65c tyJx4a65c_ok nmJx4a65c hown hK hP hD hS 0 rfl rfl 0 (by decide) (hws _ m_13_7) (fun x9 h9 => u_same (hws _ m_13_8) x9 h9) rfl (by decide +kernel) rfl rfl (Nat.le_of_ble_eq_true rfl) dJx4a65c_add_9ea2d_7 (fun H locs hP hD hS => ?_)
  have hP : va_P (dC, dI) vwCl [(h0, .inr (0, [.int 1, .ref t0, .int 0])), (h1, .inr (11, [.int p0, .int 0, .int 0, .ref h2, .ref h3, .ref h4, .ref h5, .ref h6]))] H := hP
  have hD : va_D A [(h0, .inr (0, [.int 1, .ref t0, .int 0])), (h1, .inr (11, [.int p0, .int 0, .int 0, .ref h2, .ref h3, .ref h4, .ref h5, .ref h6]))] := hD
  refine lv_aload_n hx hb dJx4a65c_add_9ea2d_10 rfl (lv_at hl 0 rfl) ?_
  refine lv_aload_n hx hb dJx4a65c_add_9ea2d_11 rfl (lv_at hl 1 rfl) ?_
  refine lv_aload_n hx hb dJx4a65c_add_9ea2d_12 rfl (lv_at hl 0 rfl) ?_
  refine va_get (D := (dC, dI)) (ci := 0) (v := .ref t0) (C := RJx4a65c) (T := TJx4a65c) (N := 3) hx hb hws inlJx4a65c hown hK hP 0 rfl rfl 1 (by decide) (hws _ m_5_0) (fun _ h9 => h9) rfl dJx4a65c_add_9ea2d_13 ?_
  refine lv_aload_n hx hb dJx4a65c_add_9ea2d_16 rfl (lv_at hl 0 rfl) ?_
  refine va_get (D := (dC, dI)) (ci := 0) (v := .int 0) (C := RJx4a65c) (T := TJx4a65c) (N := 3) hx hb hws inlJx4a65c hown hK hP 0 rfl rfl 2 (by decide) (hws _ m_12_7) (fun _ h9 => h9) rfl dJx4a65c_add_9ea2d_17 ?_
  have hPc := hP.sub (ws' := [(h0, .inr (0, [.int 1, .ref t0, .int 0])), (h1, .inr (11, [.int p0, .int 0, .int 0, .ref h2, .ref h3, .ref h4, .ref h5, .ref h6]))]) [0, 1] rfl
  have hDc := hD.sub (ws' := [(h0, .inr (0, [.int 1, .ref t0, .int 0])), (h1, .inr (11, [.int p0, .int 0, .int 0, .ref h2, .ref h3, .ref h4, .ref h5, .ref h6]))]) [0, 1] (by decide) rfl
  have hKc := hK.sub (tys' := []) [] rfl
  have hFc := va_free (wc := [(h0, .inr (0, [.int 1, .ref t0, .int 0])), (h1, .inr (11, [.int p0, .int 0, .int 0, .ref h2, .ref h3, .ref h4, .ref h5, .ref h6]))]) hD hS hA [0, 1] rfl
  refine va_callv (va_runV (As := [.ref h1, .ref t0, .int 0]) (rest := []) ⟨hx, hb, hml, hown, hws⟩ (c_Jx4a65c_add_72be8_v3 l dC dI h0 h1 t0 p0 h2 h3 h4 h5 h6 H.size) (cwV 3 hws (gw_V m_13_9 m_13_10 m_13_11 m_2_5 m_13_12) rfl rfl rfl (by decide +kernel) ⟨Nat.le_of_ble_eq_true rfl, Nat.le_of_ble_eq_true rfl⟩) ⟨fun a U g mk q => by obtain ⟨q0, q1, qP, qK, qD, qN, qA⟩ := q; exact ⟨q0, q1, qP, va_K.moved (u := U) (U := U.calling g mk a) (Vm.Alike.refl U.vm) qK, qD, nst_same rfl qN, als.moved (u := U) (U := U.calling g mk a) (Vm.Alike.refl U.vm) qA⟩, va_recv hKc hPc (ci := 0) (q0 := 0) rfl rfl, fun U hU hW => ⟨rfl, by rw [hU], by rw [hU]; exact hPc, va_K.moved hW.alike hKc, hDc.weaken (fun _ _ _ _ => trivial), nst_warm hW hNst, by rw [hU]; exact ((hAl.kept (H1 := H) (fun a ha hn => hS.2.1 a ha hn)).narrow hFc).moved hW.alike⟩⟩ rfl rfl hl.1 rfl (lv_room (Nat.le_of_ble_eq_true rfl)) dJx4a65c_add_9ea2d_20 ⟨Nat.le_of_ble_eq_true rfl, Nat.le_of_ble_eq_true rfl⟩) hS (fun q _ h => hFc q h) hFc (fun u t H1 locs ht hvm hr_2 hB hz1 hk1 hS => ?_)
  obtain ⟨au_3, cu_3, gu_3, zu_3, ru_3, ou_3, hP1, hK1, hD1⟩ := hB
  rw [ht] at hP1
  have hK1 := va_K.moved hvm.symm hK1
  obtain ⟨hP, hD⟩ := va_join (wr := []) (w1 := [(h1, .inr (11, [.int p0, .int 0, .int 0, .ref h2, .ref h3, .ref h4, .ref h5, .ref h6])), (h0, .inr (0, [.int 1, .ref (au_3 0), .int 1])), ((au_3 0), .inl ((cu_3 0), 10, .inr (.inr (.inr (.inr (ou_3 0))))))]) hP hD [0, 1] [] rfl rfl (by decide) (by decide) hk1 hFc hP1 hD1
  have hK := (hK.sub (tys' := []) [] rfl).app hK1
  generalize H1 = H at hP hS ⊢
  have hP : va_P (dC, dI) vwCl [(h1, .inr (11, [.int p0, .int 0, .int 0, .ref h2, .ref h3, .ref h4, .ref h5, .ref h6])), (h0, .inr (0, [.int 1, .ref (au_3 0), .int 1])), ((au_3 0), .inl ((cu_3 0), 10, .inr (.inr (.inr (.inr (ou_3 0))))))] H := hP
  have hD : va_D A [(h1, .inr (11, [.int p0, .int 0, .int 0, .ref h2, .ref h3, .ref h4, .ref h5, .ref h6])), (h0, .inr (0, [.int 1, .ref (au_3 0), .int 1])), ((au_3 0), .inl ((cu_3 0), 10, .inr (.inr (.inr (.inr (ou_3 0))))))] := hD
  have hK : va_K (dC, dI) vwCl [((cu_3 0), .object "java/lang/Object")] s := hK
  refine W.widen (k := 1) (n := 10) (Nat.le_of_ble_eq_true rfl) (Nat.le_of_ble_eq_true rfl) ?_
  refine lv_iconst (v := 1) hx hb dJx4a65c_add_9ea2d_23 (by decide) ?_
  have hK9 := hK.sub (tys' := [((cu_3 0), .object "java/lang/Object")]) [0] rfl
  exact W.zret (v := 1) (ty := .boolean) hx hb hr rfl (fun t ht hW => ⟨⟨1, (), rfl, rfl, ⟨(fun k9 => ([(au_3 0)] : List (Nat)).getD k9 0), (fun k9 => ([(cu_3 0)] : List ClassId).getD k9 default), (fun k9 => ([] : List (Nat → Int32)).getD k9 (fun _ => 0)), (fun k9 => ([] : List (Int32)).getD k9 0), (fun k9 => ([] : List (Nat → Nat)).getD k9 (fun _ => 0)), (fun k9 => ([(ou_3 0)] : List (Nat → Option Nat)).getD k9 (fun _ => none)), by rw [ht]; exact hP, va_K.moved hW.alike hK9, hD⟩⟩, hS.F ht⟩) hS.2.2 dJx4a65c_add_9ea2d_24

set_option maxHeartbeats 4000000 in
set_option maxRecDepth 100000 in
theorem c_X11_takeDraft_v1 (l : Launch) (dC : Nat → ClassId) (dI : Nat → Nat → Nat) (h0 : Nat) (p0 : Int32) (h1 : Nat) (h2 : Nat) (h3 : Nat) (h4 : Nat) (h5 : Nat) (h6 : Nat) (h7 : Nat) (h8 : Nat) (h9 : Nat) (h10 : Nat) (h11 : Nat) (h12 : Nat) (t0 : Nat) (h13 : Nat) (h14 : Nat) (h15 : Nat) (h16 : Nat) (h17 : Nat) (sz : Nat) : Met l yX11_takeDraft (Cond.code yX11_takeDraft cX11_takeDraft 3 (some .int) :: wsL_law) ({ frames := 5, cells := 7, slots := 182, locals := 101 }) (va_Pc [.ref h0, .int p0] (fun U => U.heap.size = sz ∧ va_P (dC, dI) vwCl [(h0, .inr (12, [.ref h1, .ref h2, .ref h3, .ref h4, .ref h5, .ref h6, .ref h7, .ref h8, .ref h9, .ref h10, .ref h11, .ref h12, .int 0, .int 0, .int (-1), .int (-1), .int (-1), .int (-1)])), (h5, .inr (0, [.int 0, .ref t0, .int 0])), (h8, .inr (11, [.int (-1), .int 0, .int 0, .ref h13, .ref h14, .ref h15, .ref h16, .ref h17]))] U.heap ∧ va_K (dC, dI) vwCl [] U ∧ va_D (fun _ => True) [(h0, .inr (12, [.ref h1, .ref h2, .ref h3, .ref h4, .ref h5, .ref h6, .ref h7, .ref h8, .ref h9, .ref h10, .ref h11, .ref h12, .int 0, .int 0, .int (-1), .int (-1), .int (-1), .int (-1)])), (h5, .inr (0, [.int 0, .ref t0, .int 0])), (h8, .inr (11, [.int (-1), .int 0, .int 0, .ref h13, .ref h14, .ref h15, .ref h16, .ref h17]))] ∧ nst U ∧ als t0 (va_A [(h0, .inr (12, [.ref h1, .ref h2, .ref h3, .ref h4, .ref h5, .ref h6, .ref h7, .ref h8, .ref h9, .ref h10, .ref h11, .ref h12, .int 0, .int 0, .int (-1), .int (-1), .int (-1), .int (-1)])), (h5, .inr (0, [.int 0, .ref t0, .int 0])), (h8, .inr (11, [.int (-1), .int 0, .int 0, .ref h13, .ref h14, .ref h15, .ref h16, .ref h17]))] sz) U U.heap)) (va_Qi (fun (r : Int32) (_ : Unit) => r = 0) (fun (_ : Unit) (t : State) => ∃ (qa : Nat → Nat) (qc : Nat → ClassId) (qg : Nat → Nat → Int32) (qz : Nat → Int32) (qr : Nat → Nat → Nat) (qo : Nat → Nat → Option Nat), va_P (dC, dI) vwCl [(h0, .inr (12, [.ref h1, .ref h2, .ref h3, .ref h4, .ref h5, .ref h6, .ref h7, .ref (qa 0), .ref h9, .ref h10, .ref h11, .ref h12, .int 0, .int 0, .int (-1), .int (-1), .int (-1), .int (-1)])), (h8, .inr (11, [.int p0, .int 0, .int 0, .ref h13, .ref h14, .ref h15, .ref h16, .ref h17])), (h5, .inr (0, [.int 1, .ref (qa 1), .int 1])), ((qa 1), .inl ((qc 0), 10, .inr (.inr (.inr (.inr (qo 0)))))), ((qa 0), .inr (11, [.int (-1), .int 0, .int 0, .ref (qa 2), .ref (qa 3), .ref (qa 4), .ref (qa 5), .ref (qa 6)])), ((qa 2), .inl ((qc 1), 16, .inl (fun _ => 0))), ((qa 3), .inl ((qc 2), 16, .inl (fun _ => 0))), ((qa 4), .inl ((qc 3), 16, .inl (fun _ => 0))), ((qa 5), .inl ((qc 4), 16, .inl (fun _ => 0))), ((qa 6), .inl ((qc 5), 100, .inl (fun _ => 0)))] t.heap ∧ va_K (dC, dI) vwCl [((qc 0), .object "java/lang/Object"), ((qc 1), .int), ((qc 2), .int), ((qc 3), .int), ((qc 4), .int), ((qc 5), .int)] t ∧ va_D (va_A [(h0, .inr (12, [.ref h1, .ref h2, .ref h3, .ref h4, .ref h5, .ref h6, .ref h7, .ref h8, .ref h9, .ref h10, .ref h11, .ref h12, .int 0, .int 0, .int (-1), .int (-1), .int (-1), .int (-1)])), (h5, .inr (0, [.int 0, .ref t0, .int 0])), (h8, .inr (11, [.int (-1), .int 0, .int 0, .ref h13, .ref h14, .ref h15, .ref h16, .ref h17]))] sz) [(h0, .inr (12, [.ref h1, .ref h2, .ref h3, .ref h4, .ref h5, .ref h6, .ref h7, .ref (qa 0), .ref h9, .ref h10, .ref h11, .ref h12, .int 0, .int 0, .int (-1), .int (-1), .int (-1), .int (-1)])), (h8, .inr (11, [.int p0, .int 0, .int 0, .ref h13, .ref h14, .ref h15, .ref h16, .ref h17])), (h5, .inr (0, [.int 1, .ref (qa 1), .int 1])), ((qa 1), .inl ((qc 0), 10, .inr (.inr (.inr (.inr (qo 0)))))), ((qa 0), .inr (11, [.int (-1), .int 0, .int 0, .ref (qa 2), .ref (qa 3), .ref (qa 4), .ref (qa 5), .ref (qa 6)])), ((qa 2), .inl ((qc 1), 16, .inl (fun _ => 0))), ((qa 3), .inl ((qc 2), 16, .inl (fun _ => 0))), ((qa 4), .inl ((qc 3), 16, .inl (fun _ => 0))), ((qa 5), .inl ((qc 4), 16, .inl (fun _ => 0))), ((qa 6), .inl ((qc 5), 100, .inl (fun _ => 0)))]) (va_A [(h0, .inr (12, [.ref h1, .ref h2, .ref h3, .ref h4, .ref h5, .ref h6, .ref h7, .ref h8, .ref h9, .ref h10, .ref h11, .ref h12, .int 0, .int 0, .int (-1), .int (-1), .int (-1), .int (-1)])), (h5, .inr (0, [.int 0, .ref t0, .int 0])), (h8, .inr (11, [.int (-1), .int 0, .int 0, .ref h13, .ref h14, .ref h15, .ref h16, .ref h17]))] sz)) 7 182 (va_A [(h0, .inr (12, [.ref h1, .ref h2, .ref h3, .ref h4, .ref h5, .ref h6, .ref h7, .ref h8, .ref h9, .ref h10, .ref h11, .ref h12, .int 0, .int 0, .int (-1), .int (-1), .int (-1), .int (-1)])), (h5, .inr (0, [.int 0, .ref t0, .int 0])), (h8, .inr (11, [.int (-1), .int 0, .int 0, .ref h13, .ref h14, .ref h15, .ref h16, .ref h17]))] sz) := by
  refine Met.ofW (cc := cX11_takeDraft) (maxL := 3) (ret := (some .int)) (by decide) rfl ?_
  intro p e s m args below meth c s₁ B hml hv
  obtain ⟨rfl, hsz, hP, hK, hD0, hNst, hAl⟩ := hv
  have hx := B.exec
  have hb := B.bytes
  have hr := B.returns
  have hts := atoms_spec (ws := Cond.code yX11_takeDraft cX11_takeDraft 3 (some .int) :: wsL_law) B.pre
  have hws : ∀ w ∈ wsL_law, w.before _ s = true := fun w h => hts w (List.mem_cons_of_mem _ h)
  have hown : s.vm.findClass RX11 = some m.cls := findClass_of_methodNamed B.named
  have hlocks := B.notSynchronized
  subst hsz
  have hD := hD0.self (sz := s.heap.size)
  generalize hAe : va_A [(h0, .inr (12, [.ref h1, .ref h2, .ref h3, .ref h4, .ref h5, .ref h6, .ref h7, .ref h8, .ref h9, .ref h10, .ref h11, .ref h12, .int 0, .int 0, .int (-1), .int (-1), .int (-1), .int (-1)])), (h5, .inr (0, [.int 0, .ref t0, .int 0])), (h8, .inr (11, [.int (-1), .int 0, .int 0, .ref h13, .ref h14, .ref h15, .ref h16, .ref h17]))] s.heap.size = A at hD hAl ⊢
  have hA : ∀ q : Nat, s.heap.size ≤ q → A q := fun q h => by rw [← hAe]; exact Or.inr h
  have hS : va_S A s.heap s.heap [] := va_S.rf
  have hP : va_P (dC, dI) vwCl [(h0, .inr (12, [.ref h1, .ref h2, .ref h3, .ref h4, .ref h5, .ref h6, .ref h7, .ref h8, .ref h9, .ref h10, .ref h11, .ref h12, .int 0, .int 0, .int (-1), .int (-1), .int (-1), .int (-1)])), (h5, .inr (0, [.int 0, .ref t0, .int 0])), (h8, .inr (11, [.int (-1), .int 0, .int 0, .ref h13, .ref h14, .ref h15, .ref h16, .ref h17]))] s.heap := hP
  have hl := lv_entry ([.ref h0, .int p0]) (n := 3) (Nat.le_of_ble_eq_true rfl)
  rw [lg_entry_eq]
  generalize (lg_sl ([.ref h0, .int p0]) ++ List.replicate (3 - (lg_sl ([.ref h0, .int p0])).length) Slot.unset).toArray = ls at hl ⊢
  have hl : lv_has ls 3 [(0, .ref h0), (1, .int p0)] := hl
  refine lv_aload_n hx hb dX11_takeDraft_0 rfl (lv_at hl 0 rfl) ?_
  refine va_get (D := (dC, dI)) (ci := 12) (v := .ref h8) (C := RX11) (T := TX11) (N := 18) hx hb hws inlX11 hown hK hP 0 rfl rfl 7 (by decide) (hws _ m_2_15) (fun _ h9 => h9) rfl dX11_takeDraft_1 ?_
  refine lv_astore_n (lv' := [(2, .ref h8), (0, .ref h0), (1, .int p0)]) hx hb dX11_takeDraft_4 rfl hl (by decide) rfl (fun ls hl => ?_)
  refine lv_aload_n hx hb dX11_takeDraft_5 rfl (lv_at hl 0 rfl) ?_
  refine lv_iload_n hx hb dX11_takeDraft_6 rfl (lv_at hl 2 rfl) ?_
  refine va_put (D := (dC, dI)) (ci := 11) (v := .int p0) (ty := .int) (C := RX10) (T := TX10) (N := 8) hx hb hws inlX10 tyX10 tyX10_ok nmX10 hown hK hP hD hS 2 rfl rfl 0 (by decide) (hws _ m_28_1) (fun _ h9 => h9) rfl (by decide +kernel) rfl rfl (Nat.le_of_ble_eq_true rfl) dX11_takeDraft_7 (fun H locs hP hD hS => ?_)
  have hP : va_P (dC, dI) vwCl [(h0, .inr (12, [.ref h1, .ref h2, .ref h3, .ref h4, .ref h5, .ref h6, .ref h7, .ref h8, .ref h9, .ref h10, .ref h11, .ref h12, .int 0, .int 0, .int (-1), .int (-1), .int (-1), .int (-1)])), (h5, .inr (0, [.int 0, .ref t0, .int 0])), (h8, .inr (11, [.int p0, .int 0, .int 0, .ref h13, .ref h14, .ref h15, .ref h16, .ref h17]))] H := hP
  have hD : va_D A [(h0, .inr (12, [.ref h1, .ref h2, .ref h3, .ref h4, .ref h5, .ref h6, .ref h7, .ref h8, .ref h9, .ref h10, .ref h11, .ref h12, .int 0, .int 0, .int (-1), .int (-1), .int (-1), .int (-1)])), (h5, .inr (0, [.int 0, .ref t0, .int 0])), (h8, .inr (11, [.int p0, .int 0, .int 0, .ref h13, .ref h14, .ref h15, .ref h16, .ref h17]))] := hD
  refine lv_aload_n hx hb dX11_takeDraft_10 rfl (lv_at hl 1 rfl) ?_
  refine va_get (D := (dC, dI)) (ci := 12) (v := .ref h5) (C := RX11) (T := TX11) (N := 18) hx hb hws inlX11 hown hK hP 0 rfl rfl 4 (by decide) (hws _ m_2_6) (fun _ h9 => h9) rfl dX11_takeDraft_11 ?_
  refine lv_aload_n hx hb dX11_takeDraft_14 rfl (lv_at hl 0 rfl) ?_
  have hPc := hP.sub (ws' := [(h5, .inr (0, [.int 0, .ref t0, .int 0])), (h8, .inr (11, [.int p0, .int 0, .int 0, .ref h13, .ref h14, .ref h15, .ref h16, .ref h17]))]) [1, 2] rfl
  have hDc := hD.sub (ws' := [(h5, .inr (0, [.int 0, .ref t0, .int 0])), (h8, .inr (11, [.int p0, .int 0, .int 0, .ref h13, .ref h14, .ref h15, .ref h16, .ref h17]))]) [1, 2] (by decide) rfl
  have hKc := hK.sub (tys' := []) [] rfl
  have hFc := va_free (wc := [(h5, .inr (0, [.int 0, .ref t0, .int 0])), (h8, .inr (11, [.int p0, .int 0, .int 0, .ref h13, .ref h14, .ref h15, .ref h16, .ref h17]))]) hD hS hA [1, 2] rfl
  refine va_calli (va_runV (As := [.ref h8]) (rest := []) ⟨hx, hb, hml, hown, hws⟩ (c_Jx4a65c_add_9ea2d_v3 l dC dI h5 h8 t0 p0 h13 h14 h15 h16 h17 H.size) (cwV 1 hws (gw_V m_13_3 m_13_4 m_13_5 m_2_5 m_13_6) rfl rfl rfl (by decide +kernel) ⟨Nat.le_of_ble_eq_true rfl, Nat.le_of_ble_eq_true rfl⟩) ⟨fun a U g mk q => by obtain ⟨q0, q1, qP, qK, qD, qN, qA⟩ := q; exact ⟨q0, q1, qP, va_K.moved (u := U) (U := U.calling g mk a) (Vm.Alike.refl U.vm) qK, qD, nst_same rfl qN, als.moved (u := U) (U := U.calling g mk a) (Vm.Alike.refl U.vm) qA⟩, va_recv hKc hPc (ci := 0) (q0 := 0) rfl rfl, fun U hU hW => ⟨rfl, by rw [hU], by rw [hU]; exact hPc, va_K.moved hW.alike hKc, hDc.weaken (fun _ _ _ _ => trivial), nst_warm hW hNst, by rw [hU]; exact ((hAl.kept (H1 := H) (fun a ha hn => hS.2.1 a ha hn)).narrow hFc).moved hW.alike⟩⟩ rfl rfl hl.1 rfl (lv_room (Nat.le_of_ble_eq_true rfl)) dX11_takeDraft_15 ⟨Nat.le_of_ble_eq_true rfl, Nat.le_of_ble_eq_true rfl⟩) hS (fun q _ h => hFc q h) hFc (fun r_1 u t H1 locs ht hvm hr_1 hB hz1 hk1 hS => ?_)
  obtain ⟨au_2, cu_2, gu_2, zu_2, ru_2, ou_2, hP1, hK1, hD1⟩ := hB
  rw [ht] at hP1
  have hK1 := va_K.moved hvm.symm hK1
  obtain ⟨hP, hD⟩ := va_join (wr := [(h0, .inr (12, [.ref h1, .ref h2, .ref h3, .ref h4, .ref h5, .ref h6, .ref h7, .ref h8, .ref h9, .ref h10, .ref h11, .ref h12, .int 0, .int 0, .int (-1), .int (-1), .int (-1), .int (-1)]))]) (w1 := [(h8, .inr (11, [.int p0, .int 0, .int 0, .ref h13, .ref h14, .ref h15, .ref h16, .ref h17])), (h5, .inr (0, [.int 1, .ref (au_2 0), .int 1])), ((au_2 0), .inl ((cu_2 0), 10, .inr (.inr (.inr (.inr (ou_2 0))))))]) hP hD [1, 2] [0] rfl rfl (by decide) (by decide) hk1 hFc hP1 hD1
  have hK := (hK.sub (tys' := []) [] rfl).app hK1
  generalize H1 = H at hP hS ⊢
  have hP : va_P (dC, dI) vwCl [(h0, .inr (12, [.ref h1, .ref h2, .ref h3, .ref h4, .ref h5, .ref h6, .ref h7, .ref h8, .ref h9, .ref h10, .ref h11, .ref h12, .int 0, .int 0, .int (-1), .int (-1), .int (-1), .int (-1)])), (h8, .inr (11, [.int p0, .int 0, .int 0, .ref h13, .ref h14, .ref h15, .ref h16, .ref h17])), (h5, .inr (0, [.int 1, .ref (au_2 0), .int 1])), ((au_2 0), .inl ((cu_2 0), 10, .inr (.inr (.inr (.inr (ou_2 0))))))] H := hP
  have hD : va_D A [(h0, .inr (12, [.ref h1, .ref h2, .ref h3, .ref h4, .ref h5, .ref h6, .ref h7, .ref h8, .ref h9, .ref h10, .ref h11, .ref h12, .int 0, .int 0, .int (-1), .int (-1), .int (-1), .int (-1)])), (h8, .inr (11, [.int p0, .int 0, .int 0, .ref h13, .ref h14, .ref h15, .ref h16, .ref h17])), (h5, .inr (0, [.int 1, .ref (au_2 0), .int 1])), ((au_2 0), .inl ((cu_2 0), 10, .inr (.inr (.inr (.inr (ou_2 0))))))] := hD
  have hK : va_K (dC, dI) vwCl [((cu_2 0), .object "java/lang/Object")] s := hK
  refine W.widen (k := 1) (n := 10) (Nat.le_of_ble_eq_true rfl) (Nat.le_of_ble_eq_true rfl) ?_
  obtain rfl := hr_1
  refine lv_pop hx hb dX11_takeDraft_18 rfl ?_
  refine lv_aload_n hx hb dX11_takeDraft_19 rfl (lv_at hl 1 rfl) ?_
  refine va_new (ci := 11) (fs := [.int 0, .int 0, .int 0, .null, .null, .null, .null, .null]) (C := RX10) (T := TX10) (N := 8) hx hb hws inlX10 tyX10 tyX10_ok hown (hws _ m_2_7) (hws _ m_2_8) (hws _ m_2_9) hK hP hD hS hA rfl dfX10 (Nat.le_of_ble_eq_true rfl) (Nat.le_of_ble_eq_true rfl) dX11_takeDraft_20 (fun q_3 H hP hD hS => ?_)
  have hP : va_P (dC, dI) vwCl [(h0, .inr (12, [.ref h1, .ref h2, .ref h3, .ref h4, .ref h5, .ref h6, .ref h7, .ref h8, .ref h9, .ref h10, .ref h11, .ref h12, .int 0, .int 0, .int (-1), .int (-1), .int (-1), .int (-1)])), (h8, .inr (11, [.int p0, .int 0, .int 0, .ref h13, .ref h14, .ref h15, .ref h16, .ref h17])), (h5, .inr (0, [.int 1, .ref (au_2 0), .int 1])), ((au_2 0), .inl ((cu_2 0), 10, .inr (.inr (.inr (.inr (ou_2 0)))))), (q_3, .inr (11, [.int 0, .int 0, .int 0, .null, .null, .null, .null, .null]))] H := hP
  have hD : va_D A [(h0, .inr (12, [.ref h1, .ref h2, .ref h3, .ref h4, .ref h5, .ref h6, .ref h7, .ref h8, .ref h9, .ref h10, .ref h11, .ref h12, .int 0, .int 0, .int (-1), .int (-1), .int (-1), .int (-1)])), (h8, .inr (11, [.int p0, .int 0, .int 0, .ref h13, .ref h14, .ref h15, .ref h16, .ref h17])), (h5, .inr (0, [.int 1, .ref (au_2 0), .int 1])), ((au_2 0), .inl ((cu_2 0), 10, .inr (.inr (.inr (.inr (ou_2 0)))))), (q_3, .inr (11, [.int 0, .int 0, .int 0, .null, .null, .null, .null, .null]))] := hD
  refine W.widen (k := 2) (n := 18) (Nat.le_of_ble_eq_true rfl) (Nat.le_of_ble_eq_true rfl) ?_
  refine lv_dup hx hb dX11_takeDraft_23 rfl ?_
  have hPc := hP.sub (ws' := [(q_3, .inr (11, [.int 0, .int 0, .int 0, .null, .null, .null, .null, .null]))]) [4] rfl
  have hDc := hD.sub (ws' := [(q_3, .inr (11, [.int 0, .int 0, .int 0, .null, .null, .null, .null, .null]))]) [4] (by decide) rfl
  have hKc := hK.sub (tys' := []) [] rfl
  have hFc := va_free (wc := [(q_3, .inr (11, [.int 0, .int 0, .int 0, .null, .null, .null, .null, .null]))]) hD hS hA [4] rfl
  refine va_callv (va_runIN (As := []) (rest := [.ref q_3, .ref h0]) ⟨hx, hb, hml, hown, hws⟩ (c_X10_init_v1 l dC dI q_3 H.size) ⟨va_cnB 0 hws (gw_I m_5_20) rfl rfl rfl (nst_X11_44 hNst) (hws _ m_2_9) (by decide +kernel) ⟨Nat.le_of_ble_eq_true rfl, Nat.le_of_ble_eq_true rfl⟩, rfl, hws _ m_5_19⟩ ⟨fun a U g mk q => by obtain ⟨q0, q1, qP, qK, qD⟩ := q; exact ⟨q0, q1, qP, va_K.moved (u := U) (U := U.calling g mk a) (Vm.Alike.refl U.vm) qK, qD⟩, fun U hU hW => ⟨rfl, by rw [hU], by rw [hU]; exact hPc, va_K.moved hW.alike hKc, hDc.weaken (fun _ _ _ _ => trivial)⟩⟩ rfl rfl hl.1 rfl (lv_room (Nat.le_of_ble_eq_true rfl)) dX11_takeDraft_24 ⟨Nat.le_of_ble_eq_true rfl, Nat.le_of_ble_eq_true rfl⟩) hS (fun q _ h => hFc q h) hFc (fun u t H1 locs ht hvm hr_4 hB hz1 hk1 hS => ?_)
  obtain ⟨au_5, cu_5, gu_5, zu_5, ru_5, hP1, hK1, hD1⟩ := hB
  rw [ht] at hP1
  have hK1 := va_K.moved hvm.symm hK1
  obtain ⟨hP, hD⟩ := va_join (wr := [(h0, .inr (12, [.ref h1, .ref h2, .ref h3, .ref h4, .ref h5, .ref h6, .ref h7, .ref h8, .ref h9, .ref h10, .ref h11, .ref h12, .int 0, .int 0, .int (-1), .int (-1), .int (-1), .int (-1)])), (h8, .inr (11, [.int p0, .int 0, .int 0, .ref h13, .ref h14, .ref h15, .ref h16, .ref h17])), (h5, .inr (0, [.int 1, .ref (au_2 0), .int 1])), ((au_2 0), .inl ((cu_2 0), 10, .inr (.inr (.inr (.inr (ou_2 0))))))]) (w1 := [(q_3, .inr (11, [.int (-1), .int 0, .int 0, .ref (au_5 0), .ref (au_5 1), .ref (au_5 2), .ref (au_5 3), .ref (au_5 4)])), ((au_5 0), .inl ((cu_5 0), 16, .inl (fun _ => 0))), ((au_5 1), .inl ((cu_5 1), 16, .inl (fun _ => 0))), ((au_5 2), .inl ((cu_5 2), 16, .inl (fun _ => 0))), ((au_5 3), .inl ((cu_5 3), 16, .inl (fun _ => 0))), ((au_5 4), .inl ((cu_5 4), 100, .inl (fun _ => 0)))]) hP hD [4] [0, 1, 2, 3] rfl rfl (by decide) (by decide) hk1 hFc hP1 hD1
  have hK := (hK.sub (tys' := [((cu_2 0), .object "java/lang/Object")]) [0] rfl).app hK1
  generalize H1 = H at hP hS ⊢
  have hP : va_P (dC, dI) vwCl [(h0, .inr (12, [.ref h1, .ref h2, .ref h3, .ref h4, .ref h5, .ref h6, .ref h7, .ref h8, .ref h9, .ref h10, .ref h11, .ref h12, .int 0, .int 0, .int (-1), .int (-1), .int (-1), .int (-1)])), (h8, .inr (11, [.int p0, .int 0, .int 0, .ref h13, .ref h14, .ref h15, .ref h16, .ref h17])), (h5, .inr (0, [.int 1, .ref (au_2 0), .int 1])), ((au_2 0), .inl ((cu_2 0), 10, .inr (.inr (.inr (.inr (ou_2 0)))))), (q_3, .inr (11, [.int (-1), .int 0, .int 0, .ref (au_5 0), .ref (au_5 1), .ref (au_5 2), .ref (au_5 3), .ref (au_5 4)])), ((au_5 0), .inl ((cu_5 0), 16, .inl (fun _ => 0))), ((au_5 1), .inl ((cu_5 1), 16, .inl (fun _ => 0))), ((au_5 2), .inl ((cu_5 2), 16, .inl (fun _ => 0))), ((au_5 3), .inl ((cu_5 3), 16, .inl (fun _ => 0))), ((au_5 4), .inl ((cu_5 4), 100, .inl (fun _ => 0)))] H := hP
  have hD : va_D A [(h0, .inr (12, [.ref h1, .ref h2, .ref h3, .ref h4, .ref h5, .ref h6, .ref h7, .ref h8, .ref h9, .ref h10, .ref h11, .ref h12, .int 0, .int 0, .int (-1), .int (-1), .int (-1), .int (-1)])), (h8, .inr (11, [.int p0, .int 0, .int 0, .ref h13, .ref h14, .ref h15, .ref h16, .ref h17])), (h5, .inr (0, [.int 1, .ref (au_2 0), .int 1])), ((au_2 0), .inl ((cu_2 0), 10, .inr (.inr (.inr (.inr (ou_2 0)))))), (q_3, .inr (11, [.int (-1), .int 0, .int 0, .ref (au_5 0), .ref (au_5 1), .ref (au_5 2), .ref (au_5 3), .ref (au_5 4)])), ((au_5 0), .inl ((cu_5 0), 16, .inl (fun _ => 0))), ((au_5 1), .inl ((cu_5 1), 16, .inl (fun _ => 0))), ((au_5 2), .inl ((cu_5 2), 16, .inl (fun _ => 0))), ((au_5 3), .inl ((cu_5 3), 16, .inl (fun _ => 0))), ((au_5 4), .inl ((cu_5 4), 100, .inl (fun _ => 0)))] := hD
  have hK : va_K (dC, dI) vwCl [((cu_2 0), .object "java/lang/Object"), ((cu_5 0), .int), ((cu_5 1), .int), ((cu_5 2), .int), ((cu_5 3), .int), ((cu_5 4), .int)] s := hK
  refine W.widen (k := 7) (n := 182) (Nat.le_of_ble_eq_true rfl) (Nat.le_of_ble_eq_true rfl) ?_
  refine va_put (D := (dC, dI)) (ci := 12) (v := .ref q_3) (ty := (.object "PaperBoys$Terms")) (C := RX11) (T := TX11) (N := 18) hx hb hws inlX11 tyX11 tyX11_ok nmX11 hown hK hP hD hS 0 rfl rfl 7 (by decide) (hws _ m_2_15) (fun _ h9 => h9) rfl (by decide +kernel) rfl rfl (Nat.le_of_ble_eq_true rfl) dX11_takeDraft_27 (fun H locs hP hD hS => ?_)
  have hP : va_P (dC, dI) vwCl [(h0, .inr (12, [.ref h1, .ref h2, .ref h3, .ref h4, .ref h5, .ref h6, .ref h7, .ref q_3, .ref h9, .ref h10, .ref h11, .ref h12, .int 0, .int 0, .int (-1), .int (-1), .int (-1), .int (-1)])), (h8, .inr (11, [.int p0, .int 0, .int 0, .ref h13, .ref h14, .ref h15, .ref h16, .ref h17])), (h5, .inr (0, [.int 1, .ref (au_2 0), .int 1])), ((au_2 0), .inl ((cu_2 0), 10, .inr (.inr (.inr (.inr (ou_2 0)))))), (q_3, .inr (11, [.int (-1), .int 0, .int 0, .ref (au_5 0), .ref (au_5 1), .ref (au_5 2), .ref (au_5 3), .ref (au_5 4)])), ((au_5 0), .inl ((cu_5 0), 16, .inl (fun _ => 0))), ((au_5 1), .inl ((cu_5 1), 16, .inl (fun _ => 0))), ((au_5 2), .inl ((cu_5 2), 16, .inl (fun _ => 0))), ((au_5 3), .inl ((cu_5 3), 16, .inl (fun _ => 0))), ((au_5 4), .inl ((cu_5 4), 100, .inl (fun _ => 0)))] H := hP
  have hD : va_D A [(h0, .inr (12, [.ref h1, .ref h2, .ref h3, .ref h4, .ref h5, .ref h6, .ref h7, .ref q_3, .ref h9, .ref h10, .ref h11, .ref h12, .int 0, .int 0, .int (-1), .int (-1), .int (-1), .int (-1)])), (h8, .inr (11, [.int p0, .int 0, .int 0, .ref h13, .ref h14, .ref h15, .ref h16, .ref h17])), (h5, .inr (0, [.int 1, .ref (au_2 0), .int 1])), ((au_2 0), .inl ((cu_2 0), 10, .inr (.inr (.inr (.inr (ou_2 0)))))), (q_3, .inr (11, [.int (-1), .int 0, .int 0, .ref (au_5 0), .ref (au_5 1), .ref (au_5 2), .ref (au_5 3), .ref (au_5 4)])), ((au_5 0), .inl ((cu_5 0), 16, .inl (fun _ => 0))), ((au_5 1), .inl ((cu_5 1), 16, .inl (fun _ => 0))), ((au_5 2), .inl ((cu_5 2), 16, .inl (fun _ => 0))), ((au_5 3), .inl ((cu_5 3), 16, .inl (fun _ => 0))), ((au_5 4), .inl ((cu_5 4), 100, .inl (fun _ => 0)))] := hD
  refine lv_aload_n hx hb dX11_takeDraft_30 rfl (lv_at hl 0 rfl) ?_
  refine va_get (D := (dC, dI)) (ci := 11) (v := .int 0) (C := RX10) (T := TX10) (N := 8) hx hb hws inlX10 hown hK hP 1 rfl rfl 1 (by decide) (hws _ m_28_2) (fun _ h9 => h9) rfl dX11_takeDraft_31 ?_
  have hK9 := hK.sub (tys' := [((cu_2 0), .object "java/lang/Object"), ((cu_5 0), .int), ((cu_5 1), .int), ((cu_5 2), .int), ((cu_5 3), .int), ((cu_5 4), .int)]) [0, 1, 2, 3, 4, 5] rfl
  exact W.iret (v := 0) hx hb hr (fun t ht hW => ⟨⟨0, (), rfl, rfl, ⟨(fun k9 => ([q_3, (au_2 0), (au_5 0), (au_5 1), (au_5 2), (au_5 3), (au_5 4)] : List (Nat)).getD k9 0), (fun k9 => ([(cu_2 0), (cu_5 0), (cu_5 1), (cu_5 2), (cu_5 3), (cu_5 4)] : List ClassId).getD k9 default), (fun k9 => ([] : List (Nat → Int32)).getD k9 (fun _ => 0)), (fun k9 => ([] : List (Int32)).getD k9 0), (fun k9 => ([] : List (Nat → Nat)).getD k9 (fun _ => 0)), (fun k9 => ([(ou_2 0)] : List (Nat → Option Nat)).getD k9 (fun _ => none)), by rw [ht]; exact hP, va_K.moved hW.alike hK9, hD⟩⟩, hS.F ht⟩) hS.2.2 dX11_takeDraft_34

set_option maxHeartbeats 4000000 in
set_option maxRecDepth 100000 in
theorem c_X11_terms_v1 (l : Launch) (dC : Nat → ClassId) (dI : Nat → Nat → Nat) (h0 : Nat) (p0 : Int32) (h1 : Nat) (h2 : Nat) (h3 : Nat) (h4 : Nat) (h5 : Nat) (h6 : Nat) (h7 : Nat) (h8 : Nat) (h9 : Nat) (h10 : Nat) (h11 : Nat) (h12 : Nat) (h13 : Nat) (t0 : Nat) (h14 : Nat) (h15 : Nat) (k0 : ClassId) (k1 : ClassId) (h16 : Nat) (h17 : Nat) (h18 : Nat) (h19 : Nat) (h20 : Nat) (sz : Nat) : Met l yX11_terms (Cond.code yX11_terms cX11_terms 3 (some .int) :: wsL_law) ({ frames := 6, cells := 7, slots := 182, locals := 123 }) (va_Pc [.ref h0, .int p0] (fun U => U.heap.size = sz ∧ va_P (dC, dI) vwCl [(h0, .inr (12, [.ref h1, .ref h2, .ref h3, .ref h4, .ref h5, .ref h6, .ref h7, .ref h8, .ref h9, .ref h10, .ref h11, .ref h12, .int 0, .int 0, .int (-1), .int (-1), .int (-1), .int (-1)])), (h1, .inr (10, [.ref h13, .int 0])), (h5, .inr (0, [.int 0, .ref t0, .int 0])), (h7, .inr (8, [.ref h14, .ref h15, .int 0, .int 0, .int 0, .int 0, .int 0])), (h14, .inl (k0, 301, .inl (fun _ => 0))), (h15, .inl (k1, 301, .inl (fun _ => 0))), (h8, .inr (11, [.int (-1), .int 0, .int 0, .ref h16, .ref h17, .ref h18, .ref h19, .ref h20]))] U.heap ∧ va_K (dC, dI) vwCl [(k0, .int), (k1, .int)] U ∧ va_D (fun _ => True) [(h0, .inr (12, [.ref h1, .ref h2, .ref h3, .ref h4, .ref h5, .ref h6, .ref h7, .ref h8, .ref h9, .ref h10, .ref h11, .ref h12, .int 0, .int 0, .int (-1), .int (-1), .int (-1), .int (-1)])), (h1, .inr (10, [.ref h13, .int 0])), (h5, .inr (0, [.int 0, .ref t0, .int 0])), (h7, .inr (8, [.ref h14, .ref h15, .int 0, .int 0, .int 0, .int 0, .int 0])), (h14, .inl (k0, 301, .inl (fun _ => 0))), (h15, .inl (k1, 301, .inl (fun _ => 0))), (h8, .inr (11, [.int (-1), .int 0, .int 0, .ref h16, .ref h17, .ref h18, .ref h19, .ref h20]))] ∧ nst U ∧ als t0 (va_A [(h0, .inr (12, [.ref h1, .ref h2, .ref h3, .ref h4, .ref h5, .ref h6, .ref h7, .ref h8, .ref h9, .ref h10, .ref h11, .ref h12, .int 0, .int 0, .int (-1), .int (-1), .int (-1), .int (-1)])), (h1, .inr (10, [.ref h13, .int 0])), (h5, .inr (0, [.int 0, .ref t0, .int 0])), (h7, .inr (8, [.ref h14, .ref h15, .int 0, .int 0, .int 0, .int 0, .int 0])), (h14, .inl (k0, 301, .inl (fun _ => 0))), (h15, .inl (k1, 301, .inl (fun _ => 0))), (h8, .inr (11, [.int (-1), .int 0, .int 0, .ref h16, .ref h17, .ref h18, .ref h19, .ref h20]))] sz) U U.heap)) (va_Qi (fun (r : Int32) (_ : Unit) => (p0 < 0 ∧ r = (-1000)) ∨ (¬ p0 < 0 ∧ 399 < p0 ∧ r = (-1000)) ∨ (¬ p0 < 0 ∧ ¬ 399 < p0 ∧ ¬ p0 < 0 ∧ r = 0)) (fun (_ : Unit) (_ : State) => True) (va_A [(h0, .inr (12, [.ref h1, .ref h2, .ref h3, .ref h4, .ref h5, .ref h6, .ref h7, .ref h8, .ref h9, .ref h10, .ref h11, .ref h12, .int 0, .int 0, .int (-1), .int (-1), .int (-1), .int (-1)])), (h1, .inr (10, [.ref h13, .int 0])), (h5, .inr (0, [.int 0, .ref t0, .int 0])), (h7, .inr (8, [.ref h14, .ref h15, .int 0, .int 0, .int 0, .int 0, .int 0])), (h14, .inl (k0, 301, .inl (fun _ => 0))), (h15, .inl (k1, 301, .inl (fun _ => 0))), (h8, .inr (11, [.int (-1), .int 0, .int 0, .ref h16, .ref h17, .ref h18, .ref h19, .ref h20]))] sz)) 7 182 (va_A [(h0, .inr (12, [.ref h1, .ref h2, .ref h3, .ref h4, .ref h5, .ref h6, .ref h7, .ref h8, .ref h9, .ref h10, .ref h11, .ref h12, .int 0, .int 0, .int (-1), .int (-1), .int (-1), .int (-1)])), (h1, .inr (10, [.ref h13, .int 0])), (h5, .inr (0, [.int 0, .ref t0, .int 0])), (h7, .inr (8, [.ref h14, .ref h15, .int 0, .int 0, .int 0, .int 0, .int 0])), (h14, .inl (k0, 301, .inl (fun _ => 0))), (h15, .inl (k1, 301, .inl (fun _ => 0))), (h8, .inr (11, [.int (-1), .int 0, .int 0, .ref h16, .ref h17, .ref h18, .ref h19, .ref h20]))] sz) := by
  refine Met.ofW (cc := cX11_terms) (maxL := 3) (ret := (some .int)) (by decide) rfl ?_
  intro p e s m args below meth c s₁ B hml hv
  obtain ⟨rfl, hsz, hP, hK, hD0, hNst, hAl⟩ := hv
  have hx := B.exec
  have hb := B.bytes
  have hr := B.returns
  have hts := atoms_spec (ws := Cond.code yX11_terms cX11_terms 3 (some .int) :: wsL_law) B.pre
  have hws : ∀ w ∈ wsL_law, w.before _ s = true := fun w h => hts w (List.mem_cons_of_mem _ h)
  have hown : s.vm.findClass RX11 = some m.cls := findClass_of_methodNamed B.named
  have hlocks := B.notSynchronized
  subst hsz
  have hD := hD0.self (sz := s.heap.size)
  generalize hAe : va_A [(h0, .inr (12, [.ref h1, .ref h2, .ref h3, .ref h4, .ref h5, .ref h6, .ref h7, .ref h8, .ref h9, .ref h10, .ref h11, .ref h12, .int 0, .int 0, .int (-1), .int (-1), .int (-1), .int (-1)])), (h1, .inr (10, [.ref h13, .int 0])), (h5, .inr (0, [.int 0, .ref t0, .int 0])), (h7, .inr (8, [.ref h14, .ref h15, .int 0, .int 0, .int 0, .int 0, .int 0])), (h14, .inl (k0, 301, .inl (fun _ => 0))), (h15, .inl (k1, 301, .inl (fun _ => 0))), (h8, .inr (11, [.int (-1), .int 0, .int 0, .ref h16, .ref h17, .ref h18, .ref h19, .ref h20]))] s.heap.size = A at hD hAl ⊢
  have hA : ∀ q : Nat, s.heap.size ≤ q → A q := fun q h => by rw [← hAe]; exact Or.inr h
  have hS : va_S A s.heap s.heap [] := va_S.rf
  have hP : va_P (dC, dI) vwCl [(h0, .inr (12, [.ref h1, .ref h2, .ref h3, .ref h4, .ref h5, .ref h6, .ref h7, .ref h8, .ref h9, .ref h10, .ref h11, .ref h12, .int 0, .int 0, .int (-1), .int (-1), .int (-1), .int (-1)])), (h1, .inr (10, [.ref h13, .int 0])), (h5, .inr (0, [.int 0, .ref t0, .int 0])), (h7, .inr (8, [.ref h14, .ref h15, .int 0, .int 0, .int 0, .int 0, .int 0])), (h14, .inl (k0, 301, .inl (fun _ => 0))), (h15, .inl (k1, 301, .inl (fun _ => 0))), (h8, .inr (11, [.int (-1), .int 0, .int 0, .ref h16, .ref h17, .ref h18, .ref h19, .ref h20]))] s.heap := hP
  have hl := lv_entry ([.ref h0, .int p0]) (n := 3) (Nat.le_of_ble_eq_true rfl)
  rw [lg_entry_eq]
  generalize (lg_sl ([.ref h0, .int p0]) ++ List.replicate (3 - (lg_sl ([.ref h0, .int p0])).length) Slot.unset).toArray = ls at hl ⊢
  have hl : lv_has ls 3 [(0, .ref h0), (1, .int p0)] := hl
  refine lv_sipush (v := (-1000)) hx hb dX11_terms_0 (by decide) ?_
  refine lv_istore_n (lv' := [(2, .int (-1000)), (0, .ref h0), (1, .int p0)]) hx hb dX11_terms_3 rfl hl (by decide) rfl (fun ls hl => ?_)
  refine lv_aload_n hx hb dX11_terms_4 rfl (lv_at hl 1 rfl) ?_
  refine va_get (D := (dC, dI)) (ci := 12) (v := .ref h5) (C := RX11) (T := TX11) (N := 18) hx hb hws inlX11 hown hK hP 0 rfl rfl 4 (by decide) (hws _ m_2_6) (fun _ h9 => h9) rfl dX11_terms_5 ?_
  have hPc := hP.sub (ws' := [(h5, .inr (0, [.int 0, .ref t0, .int 0]))]) [2] rfl
  have hDc := hD.sub (ws' := [(h5, .inr (0, [.int 0, .ref t0, .int 0]))]) [2] (by decide) rfl
  have hKc := hK.sub (tys' := []) [] rfl
  refine vp_callSi (W.runV (As := []) (rest := []) ⟨hx, hb, hml, hown, hws⟩ (c_Jx4a65c_size_8abf5_v1 l dC dI h5 t0 s.heap.size) (cwV 0 hws (gw_V m_12_3 m_12_4 m_12_5 m_2_5 m_12_6) rfl rfl rfl (by decide +kernel) ⟨Nat.le_of_ble_eq_true rfl, Nat.le_of_ble_eq_true rfl⟩) ⟨fun a U g mk q => by obtain ⟨q0, q1, qP, qK, qD⟩ := q; exact ⟨q0, q1, qP, va_K.moved (u := U) (U := U.calling g mk a) (Vm.Alike.refl U.vm) qK, qD⟩, va_recv hKc hPc (ci := 0) (q0 := 0) rfl rfl, fun U hU hW => ⟨rfl, by rw [hU], by rw [hU]; exact hPc, va_K.moved hW.alike hKc, hDc.weaken (fun _ _ _ _ => trivial)⟩⟩ rfl rfl hl.1 rfl (lv_room (Nat.le_of_ble_eq_true rfl)) dX11_terms_8 ⟨Nat.le_of_ble_eq_true rfl, Nat.le_of_ble_eq_true rfl⟩) (fun r_1 hr_1 => ?_)
  obtain rfl := hr_1
  refine lv_bipush (v := 10) hx hb dX11_terms_11 (by decide) ?_
  refine lv_icmp_ge (tgt := 82) hx hb dX11_terms_13 (by decide) (fun c_2 => absurd c_2 (by decide)) (fun _ => ?_)
  refine lv_iload_n hx hb dX11_terms_16 rfl (lv_at hl 2 rfl) ?_
  have hPc := hP.sub (ws' := []) [] rfl
  have hDc := hD.sub (ws' := []) [] (by decide) rfl
  have hKc := hK.sub (tys' := []) [] rfl
  refine vp_callSi (W.runS (As := [.int p0]) (rest := []) ⟨hx, hb, hml, hown, hws⟩ (c_X11_isDay_v1 l dC dI p0 s.heap.size) (va_cwS 1 hws (gw_S m_12_14 m_12_15 m_1_2 m_12_16) rfl rfl rfl (by decide +kernel) ⟨Nat.le_of_ble_eq_true rfl, Nat.le_of_ble_eq_true rfl⟩) ⟨fun a U g mk q => by obtain ⟨q0, q1, qP, qK, qD⟩ := q; exact ⟨q0, q1, qP, va_K.moved (u := U) (U := U.calling g mk a) (Vm.Alike.refl U.vm) qK, qD⟩, fun U hU hW => ⟨rfl, by rw [hU], by rw [hU]; exact hPc, va_K.moved hW.alike hKc, hDc.weaken (fun _ _ _ _ => trivial)⟩⟩ rfl rfl hl.1 rfl (lv_room (Nat.le_of_ble_eq_true rfl)) dX11_terms_17 ⟨Nat.le_of_ble_eq_true rfl, Nat.le_of_ble_eq_true rfl⟩) (fun r_3 hr_3 => ?_)
  rcases hr_3 with ⟨c_4, rfl⟩ | ⟨c_6, c_7, rfl⟩ | ⟨c_9, c_10, rfl⟩
  · refine lv_if_eq (tgt := 82) hx hb dX11_terms_20 (by decide) (fun _ => ?_) (fun c_5 => absurd (by decide) c_5)
    refine lv_aload_n hx hb dX11_terms_82 rfl (lv_at hl 1 rfl) ?_
    refine va_get (D := (dC, dI)) (ci := 12) (v := .ref h1) (C := RX11) (T := TX11) (N := 18) hx hb hws inlX11 hown hK hP 0 rfl rfl 0 (by decide) (hws _ m_1_16) (fun _ h9 => h9) rfl dX11_terms_83 ?_
    refine lv_iconst (v := 0) hx hb dX11_terms_86 (by decide) ?_
    refine va_put (D := (dC, dI)) (ci := 10) (v := .int 0) (ty := .int) (C := RX9) (T := TX9) (N := 2) hx hb hws inlX9 tyX9 tyX9_ok nmX9 hown hK hP hD hS 1 rfl rfl 1 (by decide) (hws _ m_10_20) (fun _ h9 => h9) rfl (by decide +kernel) rfl rfl (Nat.le_of_ble_eq_true rfl) dX11_terms_87 (fun H locs hP hD hS => ?_)
    have hP : va_P (dC, dI) vwCl [(h0, .inr (12, [.ref h1, .ref h2, .ref h3, .ref h4, .ref h5, .ref h6, .ref h7, .ref h8, .ref h9, .ref h10, .ref h11, .ref h12, .int 0, .int 0, .int (-1), .int (-1), .int (-1), .int (-1)])), (h1, .inr (10, [.ref h13, .int 0])), (h5, .inr (0, [.int 0, .ref t0, .int 0])), (h7, .inr (8, [.ref h14, .ref h15, .int 0, .int 0, .int 0, .int 0, .int 0])), (h14, .inl (k0, 301, .inl (fun _ => 0))), (h15, .inl (k1, 301, .inl (fun _ => 0))), (h8, .inr (11, [.int (-1), .int 0, .int 0, .ref h16, .ref h17, .ref h18, .ref h19, .ref h20]))] H := hP
    have hD : va_D A [(h0, .inr (12, [.ref h1, .ref h2, .ref h3, .ref h4, .ref h5, .ref h6, .ref h7, .ref h8, .ref h9, .ref h10, .ref h11, .ref h12, .int 0, .int 0, .int (-1), .int (-1), .int (-1), .int (-1)])), (h1, .inr (10, [.ref h13, .int 0])), (h5, .inr (0, [.int 0, .ref t0, .int 0])), (h7, .inr (8, [.ref h14, .ref h15, .int 0, .int 0, .int 0, .int 0, .int 0])), (h14, .inl (k0, 301, .inl (fun _ => 0))), (h15, .inl (k1, 301, .inl (fun _ => 0))), (h8, .inr (11, [.int (-1), .int 0, .int 0, .ref h16, .ref h17, .ref h18, .ref h19, .ref h20]))] := hD
    refine lv_iload_n hx hb dX11_terms_90 rfl (lv_at hl 0 rfl) ?_
    refine W.widen (k := 7) (n := 182) (Nat.le_of_ble_eq_true rfl) (Nat.le_of_ble_eq_true rfl) ?_
    exact W.iret (v := (-1000)) hx hb hr (fun t ht hW => ⟨⟨(-1000), (), rfl, (Or.inl ⟨c_4, rfl⟩), trivial⟩, hS.F ht⟩) hS.2.2 dX11_terms_91
  · refine lv_if_eq (tgt := 82) hx hb dX11_terms_20 (by decide) (fun _ => ?_) (fun c_8 => absurd (by decide) c_8)
    refine lv_aload_n hx hb dX11_terms_82 rfl (lv_at hl 1 rfl) ?_
    refine va_get (D := (dC, dI)) (ci := 12) (v := .ref h1) (C := RX11) (T := TX11) (N := 18) hx hb hws inlX11 hown hK hP 0 rfl rfl 0 (by decide) (hws _ m_1_16) (fun _ h9 => h9) rfl dX11_terms_83 ?_
    refine lv_iconst (v := 0) hx hb dX11_terms_86 (by decide) ?_
    refine va_put (D := (dC, dI)) (ci := 10) (v := .int 0) (ty := .int) (C := RX9) (T := TX9) (N := 2) hx hb hws inlX9 tyX9 tyX9_ok nmX9 hown hK hP hD hS 1 rfl rfl 1 (by decide) (hws _ m_10_20) (fun _ h9 => h9) rfl (by decide +kernel) rfl rfl (Nat.le_of_ble_eq_true rfl) dX11_terms_87 (fun H locs hP hD hS => ?_)
    have hP : va_P (dC, dI) vwCl [(h0, .inr (12, [.ref h1, .ref h2, .ref h3, .ref h4, .ref h5, .ref h6, .ref h7, .ref h8, .ref h9, .ref h10, .ref h11, .ref h12, .int 0, .int 0, .int (-1), .int (-1), .int (-1), .int (-1)])), (h1, .inr (10, [.ref h13, .int 0])), (h5, .inr (0, [.int 0, .ref t0, .int 0])), (h7, .inr (8, [.ref h14, .ref h15, .int 0, .int 0, .int 0, .int 0, .int 0])), (h14, .inl (k0, 301, .inl (fun _ => 0))), (h15, .inl (k1, 301, .inl (fun _ => 0))), (h8, .inr (11, [.int (-1), .int 0, .int 0, .ref h16, .ref h17, .ref h18, .ref h19, .ref h20]))] H := hP
    have hD : va_D A [(h0, .inr (12, [.ref h1, .ref h2, .ref h3, .ref h4, .ref h5, .ref h6, .ref h7, .ref h8, .ref h9, .ref h10, .ref h11, .ref h12, .int 0, .int 0, .int (-1), .int (-1), .int (-1), .int (-1)])), (h1, .inr (10, [.ref h13, .int 0])), (h5, .inr (0, [.int 0, .ref t0, .int 0])), (h7, .inr (8, [.ref h14, .ref h15, .int 0, .int 0, .int 0, .int 0, .int 0])), (h14, .inl (k0, 301, .inl (fun _ => 0))), (h15, .inl (k1, 301, .inl (fun _ => 0))), (h8, .inr (11, [.int (-1), .int 0, .int 0, .ref h16, .ref h17, .ref h18, .ref h19, .ref h20]))] := hD
    refine lv_iload_n hx hb dX11_terms_90 rfl (lv_at hl 0 rfl) ?_
    refine W.widen (k := 7) (n := 182) (Nat.le_of_ble_eq_true rfl) (Nat.le_of_ble_eq_true rfl) ?_
    exact W.iret (v := (-1000)) hx hb hr (fun t ht hW => ⟨⟨(-1000), (), rfl, (Or.inr (Or.inl ⟨c_6, c_7, rfl⟩)), trivial⟩, hS.F ht⟩) hS.2.2 dX11_terms_91
  · refine lv_if_eq (tgt := 82) hx hb dX11_terms_20 (by decide) (fun c_11 => absurd c_11 (by decide)) (fun _ => ?_)
    refine lv_iload_n hx hb dX11_terms_23 rfl (lv_at hl 2 rfl) ?_
    refine lv_aload_n hx hb dX11_terms_24 rfl (lv_at hl 1 rfl) ?_
    refine va_get (D := (dC, dI)) (ci := 12) (v := .int 0) (C := RX11) (T := TX11) (N := 18) hx hb hws inlX11 hown hK hP 0 rfl rfl 12 (by decide) (hws _ m_3_5) (fun _ h9 => h9) rfl dX11_terms_25 ?_
    refine lv_icmp_lt (tgt := 82) hx hb dX11_terms_28 (by decide) (fun c_12 => (by have y0 := fa_nlt c_9 (show (0 : Int32).toInt = 0 from by decide); have y1 := fb_nlt c_10 (show (399 : Int32).toInt = 399 from by decide); have y2 := fa_lt c_12 (show (0 : Int32).toInt = 0 from by decide); omega : False).elim) (fun c_12 => ?_)
    refine lv_aload_n hx hb dX11_terms_31 rfl (lv_at hl 1 rfl) ?_
    refine va_get (D := (dC, dI)) (ci := 12) (v := .ref h7) (C := RX11) (T := TX11) (N := 18) hx hb hws inlX11 hown hK hP 0 rfl rfl 6 (by decide) (hws _ m_2_14) (fun _ h9 => h9) rfl dX11_terms_32 ?_
    refine lv_aload_n hx hb dX11_terms_35 rfl (lv_at hl 1 rfl) ?_
    refine va_get (D := (dC, dI)) (ci := 12) (v := .ref h1) (C := RX11) (T := TX11) (N := 18) hx hb hws inlX11 hown hK hP 0 rfl rfl 0 (by decide) (hws _ m_1_16) (fun _ h9 => h9) rfl dX11_terms_36 ?_
    refine lv_aload_n hx hb dX11_terms_39 rfl (lv_at hl 1 rfl) ?_
    refine va_get (D := (dC, dI)) (ci := 12) (v := .ref h8) (C := RX11) (T := TX11) (N := 18) hx hb hws inlX11 hown hK hP 0 rfl rfl 7 (by decide) (hws _ m_2_15) (fun _ h9 => h9) rfl dX11_terms_40 ?_
    have hPc := hP.sub (ws' := [(h1, .inr (10, [.ref h13, .int 0])), (h7, .inr (8, [.ref h14, .ref h15, .int 0, .int 0, .int 0, .int 0, .int 0])), (h14, .inl (k0, 301, .inl (fun _ => 0))), (h15, .inl (k1, 301, .inl (fun _ => 0))), (h8, .inr (11, [.int (-1), .int 0, .int 0, .ref h16, .ref h17, .ref h18, .ref h19, .ref h20]))]) [1, 3, 4, 5, 6] rfl
    have hDc := hD.sub (ws' := [(h1, .inr (10, [.ref h13, .int 0])), (h7, .inr (8, [.ref h14, .ref h15, .int 0, .int 0, .int 0, .int 0, .int 0])), (h14, .inl (k0, 301, .inl (fun _ => 0))), (h15, .inl (k1, 301, .inl (fun _ => 0))), (h8, .inr (11, [.int (-1), .int 0, .int 0, .ref h16, .ref h17, .ref h18, .ref h19, .ref h20]))]) [1, 3, 4, 5, 6] (by decide) rfl
    have hKc := hK.sub (tys' := [(k0, .int), (k1, .int)]) [0, 1] rfl
    have hFc := va_free (wc := [(h1, .inr (10, [.ref h13, .int 0])), (h7, .inr (8, [.ref h14, .ref h15, .int 0, .int 0, .int 0, .int 0, .int 0])), (h14, .inl (k0, 301, .inl (fun _ => 0))), (h15, .inl (k1, 301, .inl (fun _ => 0))), (h8, .inr (11, [.int (-1), .int 0, .int 0, .ref h16, .ref h17, .ref h18, .ref h19, .ref h20]))]) hD hS hA [1, 3, 4, 5, 6] rfl
    refine va_callv (va_runV (As := [.ref h1, .ref h8]) (rest := []) ⟨hx, hb, hml, hown, hws⟩ (c_X7_read_v1 l dC dI h7 h1 h8 h13 h14 h15 k0 k1 h16 h17 h18 h19 h20 s.heap.size) (cwV 2 hws (gw_V m_22_13 m_22_14 m_22_15 m_2_13 m_22_16) rfl rfl rfl (by decide +kernel) ⟨Nat.le_of_ble_eq_true rfl, Nat.le_of_ble_eq_true rfl⟩) ⟨fun a U g mk q => by obtain ⟨q0, q1, qP, qK, qD⟩ := q; exact ⟨q0, q1, qP, va_K.moved (u := U) (U := U.calling g mk a) (Vm.Alike.refl U.vm) qK, qD⟩, va_recv hKc hPc (ci := 8) (q0 := 1) rfl rfl, fun U hU hW => ⟨rfl, by rw [hU], by rw [hU]; exact hPc, va_K.moved hW.alike hKc, hDc.weaken (fun _ _ _ _ => trivial)⟩⟩ rfl rfl hl.1 rfl (lv_room (Nat.le_of_ble_eq_true rfl)) dX11_terms_43 ⟨Nat.le_of_ble_eq_true rfl, Nat.le_of_ble_eq_true rfl⟩) hS (fun q _ h => hFc q h) hFc (fun u t H1 locs ht hvm hr_13 hB hz1 hk1 hS => ?_)
    obtain ⟨au_14, cu_14, gu_14, zu_14, ru_14, hP1, hK1, hD1⟩ := hB
    rw [ht] at hP1
    have hK1 := va_K.moved hvm.symm hK1
    obtain ⟨hP, hD⟩ := va_join (wr := [(h0, .inr (12, [.ref h1, .ref h2, .ref h3, .ref h4, .ref h5, .ref h6, .ref h7, .ref h8, .ref h9, .ref h10, .ref h11, .ref h12, .int 0, .int 0, .int (-1), .int (-1), .int (-1), .int (-1)])), (h5, .inr (0, [.int 0, .ref t0, .int 0]))]) (w1 := [(h8, .inr (11, [.int (-1), .int 0, .int 0, .ref h16, .ref h17, .ref h18, .ref h19, .ref h20])), (h1, .inr (10, [.ref h13, .int 0])), (h7, .inr (8, [.ref h14, .ref h15, .int 0, .int 0, .int 0, .int 0, .int 0])), (h14, .inl (k0, 301, .inl (upd (fun _ => 0) 0 23))), (h15, .inl (k1, 301, .inl (upd (fun _ => 0) 0 0)))]) hP hD [1, 3, 4, 5, 6] [0, 2] rfl rfl (by decide) (by decide) hk1 hFc hP1 hD1
    have hK := (hK.sub (tys' := []) [] rfl).app hK1
    generalize H1 = H at hP hS ⊢
    have hP : va_P (dC, dI) vwCl [(h0, .inr (12, [.ref h1, .ref h2, .ref h3, .ref h4, .ref h5, .ref h6, .ref h7, .ref h8, .ref h9, .ref h10, .ref h11, .ref h12, .int 0, .int 0, .int (-1), .int (-1), .int (-1), .int (-1)])), (h5, .inr (0, [.int 0, .ref t0, .int 0])), (h8, .inr (11, [.int (-1), .int 0, .int 0, .ref h16, .ref h17, .ref h18, .ref h19, .ref h20])), (h1, .inr (10, [.ref h13, .int 0])), (h7, .inr (8, [.ref h14, .ref h15, .int 0, .int 0, .int 0, .int 0, .int 0])), (h14, .inl (k0, 301, .inl (upd (fun _ => 0) 0 23))), (h15, .inl (k1, 301, .inl (upd (fun _ => 0) 0 0)))] H := hP
    have hD : va_D A [(h0, .inr (12, [.ref h1, .ref h2, .ref h3, .ref h4, .ref h5, .ref h6, .ref h7, .ref h8, .ref h9, .ref h10, .ref h11, .ref h12, .int 0, .int 0, .int (-1), .int (-1), .int (-1), .int (-1)])), (h5, .inr (0, [.int 0, .ref t0, .int 0])), (h8, .inr (11, [.int (-1), .int 0, .int 0, .ref h16, .ref h17, .ref h18, .ref h19, .ref h20])), (h1, .inr (10, [.ref h13, .int 0])), (h7, .inr (8, [.ref h14, .ref h15, .int 0, .int 0, .int 0, .int 0, .int 0])), (h14, .inl (k0, 301, .inl (upd (fun _ => 0) 0 23))), (h15, .inl (k1, 301, .inl (upd (fun _ => 0) 0 0)))] := hD
    have hK : va_K (dC, dI) vwCl [(k0, .int), (k1, .int)] s := hK
    refine W.widen (k := 0) (n := 0) (Nat.le_of_ble_eq_true rfl) (Nat.le_of_ble_eq_true rfl) ?_
    refine lv_aload_n hx hb dX11_terms_46 rfl (lv_at hl 1 rfl) ?_
    refine lv_aload_n hx hb dX11_terms_47 rfl (lv_at hl 1 rfl) ?_
    refine va_get (D := (dC, dI)) (ci := 12) (v := .ref h7) (C := RX11) (T := TX11) (N := 18) hx hb hws inlX11 hown hK hP 0 rfl rfl 6 (by decide) (hws _ m_2_14) (fun _ h9 => h9) rfl dX11_terms_48 ?_
    refine va_get (D := (dC, dI)) (ci := 8) (v := .int 0) (C := RX7) (T := TX7) (N := 7) hx hb hws inlX7 hown hK hP 4 rfl rfl 5 (by decide) (hws _ m_22_11) (fun _ h9 => h9) rfl dX11_terms_51 ?_
    refine va_put (D := (dC, dI)) (ci := 12) (v := .int 0) (ty := .int) (C := RX11) (T := TX11) (N := 18) hx hb hws inlX11 tyX11 tyX11_ok nmX11 hown hK hP hD hS 0 rfl rfl 13 (by decide) (hws _ m_3_6) (fun _ h9 => h9) rfl (by decide +kernel) rfl rfl (Nat.le_of_ble_eq_true rfl) dX11_terms_54 (fun H locs hP hD hS => ?_)
    have hP : va_P (dC, dI) vwCl [(h0, .inr (12, [.ref h1, .ref h2, .ref h3, .ref h4, .ref h5, .ref h6, .ref h7, .ref h8, .ref h9, .ref h10, .ref h11, .ref h12, .int 0, .int 0, .int (-1), .int (-1), .int (-1), .int (-1)])), (h5, .inr (0, [.int 0, .ref t0, .int 0])), (h8, .inr (11, [.int (-1), .int 0, .int 0, .ref h16, .ref h17, .ref h18, .ref h19, .ref h20])), (h1, .inr (10, [.ref h13, .int 0])), (h7, .inr (8, [.ref h14, .ref h15, .int 0, .int 0, .int 0, .int 0, .int 0])), (h14, .inl (k0, 301, .inl (upd (fun _ => 0) 0 23))), (h15, .inl (k1, 301, .inl (upd (fun _ => 0) 0 0)))] H := hP
    have hD : va_D A [(h0, .inr (12, [.ref h1, .ref h2, .ref h3, .ref h4, .ref h5, .ref h6, .ref h7, .ref h8, .ref h9, .ref h10, .ref h11, .ref h12, .int 0, .int 0, .int (-1), .int (-1), .int (-1), .int (-1)])), (h5, .inr (0, [.int 0, .ref t0, .int 0])), (h8, .inr (11, [.int (-1), .int 0, .int 0, .ref h16, .ref h17, .ref h18, .ref h19, .ref h20])), (h1, .inr (10, [.ref h13, .int 0])), (h7, .inr (8, [.ref h14, .ref h15, .int 0, .int 0, .int 0, .int 0, .int 0])), (h14, .inl (k0, 301, .inl (upd (fun _ => 0) 0 23))), (h15, .inl (k1, 301, .inl (upd (fun _ => 0) 0 0)))] := hD
    refine lv_aload_n hx hb dX11_terms_57 rfl (lv_at hl 1 rfl) ?_
    refine va_get (D := (dC, dI)) (ci := 12) (v := .int 0) (C := RX11) (T := TX11) (N := 18) hx hb hws inlX11 hown hK hP 0 rfl rfl 13 (by decide) (hws _ m_3_6) (fun _ h9 => h9) rfl dX11_terms_58 ?_
    refine lv_if_ne (tgt := 72) hx hb dX11_terms_61 (by decide) (fun c_15 => absurd (by decide) c_15) (fun _ => ?_)
    refine lv_aload_n hx hb dX11_terms_64 rfl (lv_at hl 1 rfl) ?_
    refine lv_iload_n hx hb dX11_terms_65 rfl (lv_at hl 2 rfl) ?_
    have hPc := hP.sub (ws' := [(h0, .inr (12, [.ref h1, .ref h2, .ref h3, .ref h4, .ref h5, .ref h6, .ref h7, .ref h8, .ref h9, .ref h10, .ref h11, .ref h12, .int 0, .int 0, .int (-1), .int (-1), .int (-1), .int (-1)])), (h5, .inr (0, [.int 0, .ref t0, .int 0])), (h8, .inr (11, [.int (-1), .int 0, .int 0, .ref h16, .ref h17, .ref h18, .ref h19, .ref h20]))]) [0, 1, 2] rfl
    have hDc := hD.sub (ws' := [(h0, .inr (12, [.ref h1, .ref h2, .ref h3, .ref h4, .ref h5, .ref h6, .ref h7, .ref h8, .ref h9, .ref h10, .ref h11, .ref h12, .int 0, .int 0, .int (-1), .int (-1), .int (-1), .int (-1)])), (h5, .inr (0, [.int 0, .ref t0, .int 0])), (h8, .inr (11, [.int (-1), .int 0, .int 0, .ref h16, .ref h17, .ref h18, .ref h19, .ref h20]))]) [0, 1, 2] (by decide) rfl
    have hKc := hK.sub (tys' := []) [] rfl
    have hFc := va_free (wc := [(h0, .inr (12, [.ref h1, .ref h2, .ref h3, .ref h4, .ref h5, .ref h6, .ref h7, .ref h8, .ref h9, .ref h10, .ref h11, .ref h12, .int 0, .int 0, .int (-1), .int (-1), .int (-1), .int (-1)])), (h5, .inr (0, [.int 0, .ref t0, .int 0])), (h8, .inr (11, [.int (-1), .int 0, .int 0, .ref h16, .ref h17, .ref h18, .ref h19, .ref h20]))]) hD hS hA [0, 1, 2] rfl
    refine va_calli (va_runV (As := [.int p0]) (rest := []) ⟨hx, hb, hml, hown, hws⟩ (c_X11_takeDraft_v1 l dC dI h0 p0 h1 h2 h3 h4 h5 h6 h7 h8 h9 h10 h11 h12 t0 h16 h17 h18 h19 h20 H.size) (cwV 1 hws (gw_V m_27_21 m_27_22 m_27_23 m_1_2 m_28_0) rfl rfl rfl (by decide +kernel) ⟨Nat.le_of_ble_eq_true rfl, Nat.le_of_ble_eq_true rfl⟩) ⟨fun a U g mk q => by obtain ⟨q0, q1, qP, qK, qD, qN, qA⟩ := q; exact ⟨q0, q1, qP, va_K.moved (u := U) (U := U.calling g mk a) (Vm.Alike.refl U.vm) qK, qD, nst_same rfl qN, als.moved (u := U) (U := U.calling g mk a) (Vm.Alike.refl U.vm) qA⟩, va_recv hKc hPc (ci := 12) (q0 := 0) rfl rfl, fun U hU hW => ⟨rfl, by rw [hU], by rw [hU]; exact hPc, va_K.moved hW.alike hKc, hDc.weaken (fun _ _ _ _ => trivial), nst_warm hW hNst, by rw [hU]; exact ((hAl.kept (H1 := H) (fun a ha hn => hS.2.1 a ha hn)).narrow hFc).moved hW.alike⟩⟩ rfl rfl hl.1 rfl (lv_room (Nat.le_of_ble_eq_true rfl)) dX11_terms_66 ⟨Nat.le_of_ble_eq_true rfl, Nat.le_of_ble_eq_true rfl⟩) hS (fun q _ h => hFc q h) hFc (fun r_16 u t H1 locs ht hvm hr_16 hB hz1 hk1 hS => ?_)
    obtain ⟨au_17, cu_17, gu_17, zu_17, ru_17, ou_17, hP1, hK1, hD1⟩ := hB
    rw [ht] at hP1
    have hK1 := va_K.moved hvm.symm hK1
    obtain ⟨hP, hD⟩ := va_join (wr := [(h1, .inr (10, [.ref h13, .int 0])), (h7, .inr (8, [.ref h14, .ref h15, .int 0, .int 0, .int 0, .int 0, .int 0])), (h14, .inl (k0, 301, .inl (upd (fun _ => 0) 0 23))), (h15, .inl (k1, 301, .inl (upd (fun _ => 0) 0 0)))]) (w1 := [(h0, .inr (12, [.ref h1, .ref h2, .ref h3, .ref h4, .ref h5, .ref h6, .ref h7, .ref (au_17 0), .ref h9, .ref h10, .ref h11, .ref h12, .int 0, .int 0, .int (-1), .int (-1), .int (-1), .int (-1)])), (h8, .inr (11, [.int p0, .int 0, .int 0, .ref h16, .ref h17, .ref h18, .ref h19, .ref h20])), (h5, .inr (0, [.int 1, .ref (au_17 1), .int 1])), ((au_17 1), .inl ((cu_17 0), 10, .inr (.inr (.inr (.inr (ou_17 0)))))), ((au_17 0), .inr (11, [.int (-1), .int 0, .int 0, .ref (au_17 2), .ref (au_17 3), .ref (au_17 4), .ref (au_17 5), .ref (au_17 6)])), ((au_17 2), .inl ((cu_17 1), 16, .inl (fun _ => 0))), ((au_17 3), .inl ((cu_17 2), 16, .inl (fun _ => 0))), ((au_17 4), .inl ((cu_17 3), 16, .inl (fun _ => 0))), ((au_17 5), .inl ((cu_17 4), 16, .inl (fun _ => 0))), ((au_17 6), .inl ((cu_17 5), 100, .inl (fun _ => 0)))]) hP hD [0, 1, 2] [3, 4, 5, 6] rfl rfl (by decide) (by decide) hk1 hFc hP1 hD1
    have hK := (hK.sub (tys' := [(k0, .int), (k1, .int)]) [0, 1] rfl).app hK1
    generalize H1 = H at hP hS ⊢
    have hP : va_P (dC, dI) vwCl [(h1, .inr (10, [.ref h13, .int 0])), (h7, .inr (8, [.ref h14, .ref h15, .int 0, .int 0, .int 0, .int 0, .int 0])), (h14, .inl (k0, 301, .inl (upd (fun _ => 0) 0 23))), (h15, .inl (k1, 301, .inl (upd (fun _ => 0) 0 0))), (h0, .inr (12, [.ref h1, .ref h2, .ref h3, .ref h4, .ref h5, .ref h6, .ref h7, .ref (au_17 0), .ref h9, .ref h10, .ref h11, .ref h12, .int 0, .int 0, .int (-1), .int (-1), .int (-1), .int (-1)])), (h8, .inr (11, [.int p0, .int 0, .int 0, .ref h16, .ref h17, .ref h18, .ref h19, .ref h20])), (h5, .inr (0, [.int 1, .ref (au_17 1), .int 1])), ((au_17 1), .inl ((cu_17 0), 10, .inr (.inr (.inr (.inr (ou_17 0)))))), ((au_17 0), .inr (11, [.int (-1), .int 0, .int 0, .ref (au_17 2), .ref (au_17 3), .ref (au_17 4), .ref (au_17 5), .ref (au_17 6)])), ((au_17 2), .inl ((cu_17 1), 16, .inl (fun _ => 0))), ((au_17 3), .inl ((cu_17 2), 16, .inl (fun _ => 0))), ((au_17 4), .inl ((cu_17 3), 16, .inl (fun _ => 0))), ((au_17 5), .inl ((cu_17 4), 16, .inl (fun _ => 0))), ((au_17 6), .inl ((cu_17 5), 100, .inl (fun _ => 0)))] H := hP
    have hD : va_D A [(h1, .inr (10, [.ref h13, .int 0])), (h7, .inr (8, [.ref h14, .ref h15, .int 0, .int 0, .int 0, .int 0, .int 0])), (h14, .inl (k0, 301, .inl (upd (fun _ => 0) 0 23))), (h15, .inl (k1, 301, .inl (upd (fun _ => 0) 0 0))), (h0, .inr (12, [.ref h1, .ref h2, .ref h3, .ref h4, .ref h5, .ref h6, .ref h7, .ref (au_17 0), .ref h9, .ref h10, .ref h11, .ref h12, .int 0, .int 0, .int (-1), .int (-1), .int (-1), .int (-1)])), (h8, .inr (11, [.int p0, .int 0, .int 0, .ref h16, .ref h17, .ref h18, .ref h19, .ref h20])), (h5, .inr (0, [.int 1, .ref (au_17 1), .int 1])), ((au_17 1), .inl ((cu_17 0), 10, .inr (.inr (.inr (.inr (ou_17 0)))))), ((au_17 0), .inr (11, [.int (-1), .int 0, .int 0, .ref (au_17 2), .ref (au_17 3), .ref (au_17 4), .ref (au_17 5), .ref (au_17 6)])), ((au_17 2), .inl ((cu_17 1), 16, .inl (fun _ => 0))), ((au_17 3), .inl ((cu_17 2), 16, .inl (fun _ => 0))), ((au_17 4), .inl ((cu_17 3), 16, .inl (fun _ => 0))), ((au_17 5), .inl ((cu_17 4), 16, .inl (fun _ => 0))), ((au_17 6), .inl ((cu_17 5), 100, .inl (fun _ => 0)))] := hD
    have hK : va_K (dC, dI) vwCl [(k0, .int), (k1, .int), ((cu_17 0), .object "java/lang/Object"), ((cu_17 1), .int), ((cu_17 2), .int), ((cu_17 3), .int), ((cu_17 4), .int), ((cu_17 5), .int)] s := hK
    refine W.widen (k := 7) (n := 182) (Nat.le_of_ble_eq_true rfl) (Nat.le_of_ble_eq_true rfl) ?_
    obtain rfl := hr_16
    refine lv_goto (tgt := 81) hx hb dX11_terms_69 (by decide) ?_
    refine lv_istore_n (lv' := [(2, .int 0), (0, .ref h0), (1, .int p0)]) hx hb dX11_terms_81 rfl hl (by decide) rfl (fun ls hl => ?_)
    refine lv_aload_n hx hb dX11_terms_82 rfl (lv_at hl 1 rfl) ?_
    refine va_get (D := (dC, dI)) (ci := 12) (v := .ref h1) (C := RX11) (T := TX11) (N := 18) hx hb hws inlX11 hown hK hP 4 rfl rfl 0 (by decide) (hws _ m_1_16) (fun _ h9 => h9) rfl dX11_terms_83 ?_
    refine lv_iconst (v := 0) hx hb dX11_terms_86 (by decide) ?_
    refine va_put (D := (dC, dI)) (ci := 10) (v := .int 0) (ty := .int) (C := RX9) (T := TX9) (N := 2) hx hb hws inlX9 tyX9 tyX9_ok nmX9 hown hK hP hD hS 0 rfl rfl 1 (by decide) (hws _ m_10_20) (fun _ h9 => h9) rfl (by decide +kernel) rfl rfl (Nat.le_of_ble_eq_true rfl) dX11_terms_87 (fun H locs hP hD hS => ?_)
    have hP : va_P (dC, dI) vwCl [(h1, .inr (10, [.ref h13, .int 0])), (h7, .inr (8, [.ref h14, .ref h15, .int 0, .int 0, .int 0, .int 0, .int 0])), (h14, .inl (k0, 301, .inl (upd (fun _ => 0) 0 23))), (h15, .inl (k1, 301, .inl (upd (fun _ => 0) 0 0))), (h0, .inr (12, [.ref h1, .ref h2, .ref h3, .ref h4, .ref h5, .ref h6, .ref h7, .ref (au_17 0), .ref h9, .ref h10, .ref h11, .ref h12, .int 0, .int 0, .int (-1), .int (-1), .int (-1), .int (-1)])), (h8, .inr (11, [.int p0, .int 0, .int 0, .ref h16, .ref h17, .ref h18, .ref h19, .ref h20])), (h5, .inr (0, [.int 1, .ref (au_17 1), .int 1])), ((au_17 1), .inl ((cu_17 0), 10, .inr (.inr (.inr (.inr (ou_17 0)))))), ((au_17 0), .inr (11, [.int (-1), .int 0, .int 0, .ref (au_17 2), .ref (au_17 3), .ref (au_17 4), .ref (au_17 5), .ref (au_17 6)])), ((au_17 2), .inl ((cu_17 1), 16, .inl (fun _ => 0))), ((au_17 3), .inl ((cu_17 2), 16, .inl (fun _ => 0))), ((au_17 4), .inl ((cu_17 3), 16, .inl (fun _ => 0))), ((au_17 5), .inl ((cu_17 4), 16, .inl (fun _ => 0))), ((au_17 6), .inl ((cu_17 5), 100, .inl (fun _ => 0)))] H := hP
    have hD : va_D A [(h1, .inr (10, [.ref h13, .int 0])), (h7, .inr (8, [.ref h14, .ref h15, .int 0, .int 0, .int 0, .int 0, .int 0])), (h14, .inl (k0, 301, .inl (upd (fun _ => 0) 0 23))), (h15, .inl (k1, 301, .inl (upd (fun _ => 0) 0 0))), (h0, .inr (12, [.ref h1, .ref h2, .ref h3, .ref h4, .ref h5, .ref h6, .ref h7, .ref (au_17 0), .ref h9, .ref h10, .ref h11, .ref h12, .int 0, .int 0, .int (-1), .int (-1), .int (-1), .int (-1)])), (h8, .inr (11, [.int p0, .int 0, .int 0, .ref h16, .ref h17, .ref h18, .ref h19, .ref h20])), (h5, .inr (0, [.int 1, .ref (au_17 1), .int 1])), ((au_17 1), .inl ((cu_17 0), 10, .inr (.inr (.inr (.inr (ou_17 0)))))), ((au_17 0), .inr (11, [.int (-1), .int 0, .int 0, .ref (au_17 2), .ref (au_17 3), .ref (au_17 4), .ref (au_17 5), .ref (au_17 6)])), ((au_17 2), .inl ((cu_17 1), 16, .inl (fun _ => 0))), ((au_17 3), .inl ((cu_17 2), 16, .inl (fun _ => 0))), ((au_17 4), .inl ((cu_17 3), 16, .inl (fun _ => 0))), ((au_17 5), .inl ((cu_17 4), 16, .inl (fun _ => 0))), ((au_17 6), .inl ((cu_17 5), 100, .inl (fun _ => 0)))] := hD
    refine lv_iload_n hx hb dX11_terms_90 rfl (lv_at hl 0 rfl) ?_
    exact W.iret (v := 0) hx hb hr (fun t ht hW => ⟨⟨0, (), rfl, (Or.inr (Or.inr ⟨c_9, c_10, c_12, rfl⟩)), trivial⟩, hS.F ht⟩) hS.2.2 dX11_terms_91
