set_option maxHeartbeats 4000000 in
set_option maxRecDepth 100000 in
theorem c_X10_init_v1 (l : Launch) (dC : Nat → ClassId) (dI : Nat → Nat → Nat) (h0 : Nat) (sz : Nat) : Met l yX10_init (Cond.code yX10_init cX10_init 1 none :: wsL_law) ({ frames := 1, cells := 5, slots := 164, locals := 12 }) (va_Pc [.ref h0] (fun U => U.heap.size = sz ∧ va_P (dC, dI) vwCl [(h0, .inr (11, [.int 0, .int 0, .int 0, .null, .null, .null, .null, .null]))] U.heap ∧ va_K (dC, dI) vwCl [] U ∧ va_D (fun _ => True) [(h0, .inr (11, [.int 0, .int 0, .int 0, .null, .null, .null, .null, .null]))])) (va_Qv (fun (_ : Unit) => True) (fun (_ : Unit) (t : State) => ∃ (qa : Nat → Nat) (qc : Nat → ClassId) (qg : Nat → Nat → Int32) (qz : Nat → Int32) (qr : Nat → Nat → Nat), va_P (dC, dI) vwCl [(h0, .inr (11, [.int (-1), .int 0, .int 0, .ref (qa 0), .ref (qa 1), .ref (qa 2), .ref (qa 3), .ref (qa 4)])), ((qa 0), .inl ((qc 0), 16, .inl (fun _ => 0))), ((qa 1), .inl ((qc 1), 16, .inl (fun _ => 0))), ((qa 2), .inl ((qc 2), 16, .inl (fun _ => 0))), ((qa 3), .inl ((qc 3), 16, .inl (fun _ => 0))), ((qa 4), .inl ((qc 4), 100, .inl (fun _ => 0)))] t.heap ∧ va_K (dC, dI) vwCl [((qc 0), .int), ((qc 1), .int), ((qc 2), .int), ((qc 3), .int), ((qc 4), .int)] t ∧ va_D (va_A [(h0, .inr (11, [.int 0, .int 0, .int 0, .null, .null, .null, .null, .null]))] sz) [(h0, .inr (11, [.int (-1), .int 0, .int 0, .ref (qa 0), .ref (qa 1), .ref (qa 2), .ref (qa 3), .ref (qa 4)])), ((qa 0), .inl ((qc 0), 16, .inl (fun _ => 0))), ((qa 1), .inl ((qc 1), 16, .inl (fun _ => 0))), ((qa 2), .inl ((qc 2), 16, .inl (fun _ => 0))), ((qa 3), .inl ((qc 3), 16, .inl (fun _ => 0))), ((qa 4), .inl ((qc 4), 100, .inl (fun _ => 0)))]) (va_A [(h0, .inr (11, [.int 0, .int 0, .int 0, .null, .null, .null, .null, .null]))] sz)) 5 164 (va_A [(h0, .inr (11, [.int 0, .int 0, .int 0, .null, .null, .null, .null, .null]))] sz) := by
  refine Met.ofW (cc := cX10_init) (maxL := 1) (ret := none) (by decide) rfl ?_
  intro p e s m args below meth c s₁ B hml hv
  obtain ⟨rfl, hsz, hP, hK, hD0⟩ := hv
  have hx := B.exec
  have hb := B.bytes
  have hr := B.returns
  have hts := atoms_spec (ws := Cond.code yX10_init cX10_init 1 none :: wsL_law) B.pre
  have hws : ∀ w ∈ wsL_law, w.before _ s = true := fun w h => hts w (List.mem_cons_of_mem _ h)
  have hown : s.vm.findClass RX10 = some m.cls := findClass_of_methodNamed B.named
  have hlocks := B.notSynchronized
  have hin : meth.name = "<init>" := (name_of_methodNamed B.named B.method).1
  subst hsz
  have hD := hD0.self (sz := s.heap.size)
  generalize hAe : va_A [(h0, .inr (11, [.int 0, .int 0, .int 0, .null, .null, .null, .null, .null]))] s.heap.size = A at hD ⊢
  have hA : ∀ q : Nat, s.heap.size ≤ q → A q := fun q h => by rw [← hAe]; exact Or.inr h
  have hS : va_S A s.heap s.heap [] := va_S.rf
  have hP : va_P (dC, dI) vwCl [(h0, .inr (11, [.int 0, .int 0, .int 0, .null, .null, .null, .null, .null]))] s.heap := hP
  have hl := lv_entry ([.ref h0]) (n := 1) (Nat.le_of_ble_eq_true rfl)
  rw [lg_entry_eq]
  generalize (lg_sl ([.ref h0]) ++ List.replicate (1 - (lg_sl ([.ref h0])).length) Slot.unset).toArray = ls at hl ⊢
  have hl : lv_has ls 1 [(0, .ref h0)] := hl
  refine lv_aload_n hx hb dX10_init_0 rfl (lv_at hl 0 rfl) ?_
  refine W.objInit hx hb hown (hws _ m_5_21) (hws _ m_1_11) (hws _ m_1_12) rfl (by rw [hml]; exact hl.1) rfl dX10_init_1 (Nat.le_of_ble_eq_true rfl) (Nat.le_of_ble_eq_true rfl) ?_
  refine W.eq (g2 := F0 m 4 ls []) rfl ?_
  refine lv_aload_n hx hb dX10_init_4 rfl (lv_at hl 0 rfl) ?_
  refine lv_iconst (v := (-1)) hx hb dX10_init_5 (by decide) ?_
  refine va_put (D := (dC, dI)) (ci := 11) (v := .int (-1)) (ty := .int) (C := RX10) (T := TX10) (N := 8) hx hb hws inlX10 tyX10 tyX10_ok nmX10 hown hK hP hD hS 0 rfl rfl 0 (by decide) (hws _ m_5_22) (fun _ h9 => h9) rfl (by decide +kernel) rfl rfl (Nat.le_of_ble_eq_true rfl) dX10_init_6 (fun H locs hP hD hS => ?_)
  have hP : va_P (dC, dI) vwCl [(h0, .inr (11, [.int (-1), .int 0, .int 0, .null, .null, .null, .null, .null]))] H := hP
  have hD : va_D A [(h0, .inr (11, [.int (-1), .int 0, .int 0, .null, .null, .null, .null, .null]))] := hD
  refine lv_aload_n hx hb dX10_init_9 rfl (lv_at hl 0 rfl) ?_
  refine lv_iconst (v := 0) hx hb dX10_init_10 (by decide) ?_
  refine va_put (D := (dC, dI)) (ci := 11) (v := .int 0) (ty := .int) (C := RX10) (T := TX10) (N := 8) hx hb hws inlX10 tyX10 tyX10_ok nmX10 hown hK hP hD hS 0 rfl rfl 1 (by decide) (hws _ m_5_23) (fun _ h9 => h9) rfl (by decide +kernel) rfl rfl (Nat.le_of_ble_eq_true rfl) dX10_init_11 (fun H locs hP hD hS => ?_)
  have hP : va_P (dC, dI) vwCl [(h0, .inr (11, [.int (-1), .int 0, .int 0, .null, .null, .null, .null, .null]))] H := hP
  have hD : va_D A [(h0, .inr (11, [.int (-1), .int 0, .int 0, .null, .null, .null, .null, .null]))] := hD
  refine lv_aload_n hx hb dX10_init_14 rfl (lv_at hl 0 rfl) ?_
  refine lv_iconst (v := 0) hx hb dX10_init_15 (by decide) ?_
  refine va_put (D := (dC, dI)) (ci := 11) (v := .int 0) (ty := .int) (C := RX10) (T := TX10) (N := 8) hx hb hws inlX10 tyX10 tyX10_ok nmX10 hown hK hP hD hS 0 rfl rfl 2 (by decide) (hws _ m_6_0) (fun _ h9 => h9) rfl (by decide +kernel) rfl rfl (Nat.le_of_ble_eq_true rfl) dX10_init_16 (fun H locs hP hD hS => ?_)
  have hP : va_P (dC, dI) vwCl [(h0, .inr (11, [.int (-1), .int 0, .int 0, .null, .null, .null, .null, .null]))] H := hP
  have hD : va_D A [(h0, .inr (11, [.int (-1), .int 0, .int 0, .null, .null, .null, .null, .null]))] := hD
  refine lv_aload_n hx hb dX10_init_19 rfl (lv_at hl 0 rfl) ?_
  refine lv_bipush (v := 16) hx hb dX10_init_20 (by decide) ?_
  refine va_newa (atype := .int) (ty := .int) (N' := 16) (a0 := (16, .inl (fun _ => 0))) hx hb (hws _ m_3_14) rfl hK hP hD hS hA (fun _ => rfl) (by decide) (by decide) (by decide) (Nat.le_of_ble_eq_true rfl) (Nat.le_of_ble_eq_true rfl) dX10_init_22 (fun q_1 k_2 H hK hP hD hS => ?_)
  have hP : va_P (dC, dI) vwCl [(h0, .inr (11, [.int (-1), .int 0, .int 0, .null, .null, .null, .null, .null])), (q_1, .inl (k_2, 16, .inl (fun _ => 0)))] H := hP
  have hD : va_D A [(h0, .inr (11, [.int (-1), .int 0, .int 0, .null, .null, .null, .null, .null])), (q_1, .inl (k_2, 16, .inl (fun _ => 0)))] := hD
  have hK : va_K (dC, dI) vwCl [(k_2, .int)] s := hK
  refine W.widen (k := 1) (n := 16) (Nat.le_of_ble_eq_true rfl) (Nat.le_of_ble_eq_true rfl) ?_
  refine va_putF (D := (dC, dI)) (ci := 11) (v := .ref q_1) (ty := (.array .int)) (C := RX10) (T := TX10) (N := 8) hx hb hws inlX10 tyX10 tyX10_ok nmX10 hown hK hP hD hS 0 rfl rfl 3 (by decide) (hws _ m_6_1) (fun _ h9 => h9) rfl hin rfl (by decide +kernel) rfl rfl (Nat.le_of_ble_eq_true rfl) dX10_init_24 (fun H locs hP hD hS => ?_)
  have hP : va_P (dC, dI) vwCl [(h0, .inr (11, [.int (-1), .int 0, .int 0, .ref q_1, .null, .null, .null, .null])), (q_1, .inl (k_2, 16, .inl (fun _ => 0)))] H := hP
  have hD : va_D A [(h0, .inr (11, [.int (-1), .int 0, .int 0, .ref q_1, .null, .null, .null, .null])), (q_1, .inl (k_2, 16, .inl (fun _ => 0)))] := hD
  refine lv_aload_n hx hb dX10_init_27 rfl (lv_at hl 0 rfl) ?_
  refine lv_bipush (v := 16) hx hb dX10_init_28 (by decide) ?_
  refine va_newa (atype := .int) (ty := .int) (N' := 16) (a0 := (16, .inl (fun _ => 0))) hx hb (hws _ m_3_14) rfl hK hP hD hS hA (fun _ => rfl) (by decide) (by decide) (by decide) (Nat.le_of_ble_eq_true rfl) (Nat.le_of_ble_eq_true rfl) dX10_init_30 (fun q_3 k_4 H hK hP hD hS => ?_)
  have hP : va_P (dC, dI) vwCl [(h0, .inr (11, [.int (-1), .int 0, .int 0, .ref q_1, .null, .null, .null, .null])), (q_1, .inl (k_2, 16, .inl (fun _ => 0))), (q_3, .inl (k_4, 16, .inl (fun _ => 0)))] H := hP
  have hD : va_D A [(h0, .inr (11, [.int (-1), .int 0, .int 0, .ref q_1, .null, .null, .null, .null])), (q_1, .inl (k_2, 16, .inl (fun _ => 0))), (q_3, .inl (k_4, 16, .inl (fun _ => 0)))] := hD
  have hK : va_K (dC, dI) vwCl [(k_2, .int), (k_4, .int)] s := hK
  refine W.widen (k := 2) (n := 32) (Nat.le_of_ble_eq_true rfl) (Nat.le_of_ble_eq_true rfl) ?_
  refine va_putF (D := (dC, dI)) (ci := 11) (v := .ref q_3) (ty := (.array .int)) (C := RX10) (T := TX10) (N := 8) hx hb hws inlX10 tyX10 tyX10_ok nmX10 hown hK hP hD hS 0 rfl rfl 4 (by decide) (hws _ m_6_2) (fun _ h9 => h9) rfl hin rfl (by decide +kernel) rfl rfl (Nat.le_of_ble_eq_true rfl) dX10_init_32 (fun H locs hP hD hS => ?_)
  have hP : va_P (dC, dI) vwCl [(h0, .inr (11, [.int (-1), .int 0, .int 0, .ref q_1, .ref q_3, .null, .null, .null])), (q_1, .inl (k_2, 16, .inl (fun _ => 0))), (q_3, .inl (k_4, 16, .inl (fun _ => 0)))] H := hP
  have hD : va_D A [(h0, .inr (11, [.int (-1), .int 0, .int 0, .ref q_1, .ref q_3, .null, .null, .null])), (q_1, .inl (k_2, 16, .inl (fun _ => 0))), (q_3, .inl (k_4, 16, .inl (fun _ => 0)))] := hD
  refine lv_aload_n hx hb dX10_init_35 rfl (lv_at hl 0 rfl) ?_
  refine lv_bipush (v := 16) hx hb dX10_init_36 (by decide) ?_
  refine va_newa (atype := .int) (ty := .int) (N' := 16) (a0 := (16, .inl (fun _ => 0))) hx hb (hws _ m_3_14) rfl hK hP hD hS hA (fun _ => rfl) (by decide) (by decide) (by decide) (Nat.le_of_ble_eq_true rfl) (Nat.le_of_ble_eq_true rfl) dX10_init_38 (fun q_5 k_6 H hK hP hD hS => ?_)
  have hP : va_P (dC, dI) vwCl [(h0, .inr (11, [.int (-1), .int 0, .int 0, .ref q_1, .ref q_3, .null, .null, .null])), (q_1, .inl (k_2, 16, .inl (fun _ => 0))), (q_3, .inl (k_4, 16, .inl (fun _ => 0))), (q_5, .inl (k_6, 16, .inl (fun _ => 0)))] H := hP
  have hD : va_D A [(h0, .inr (11, [.int (-1), .int 0, .int 0, .ref q_1, .ref q_3, .null, .null, .null])), (q_1, .inl (k_2, 16, .inl (fun _ => 0))), (q_3, .inl (k_4, 16, .inl (fun _ => 0))), (q_5, .inl (k_6, 16, .inl (fun _ => 0)))] := hD
  have hK : va_K (dC, dI) vwCl [(k_2, .int), (k_4, .int), (k_6, .int)] s := hK
  refine W.widen (k := 3) (n := 48) (Nat.le_of_ble_eq_true rfl) (Nat.le_of_ble_eq_true rfl) ?_
  refine va_putF (D := (dC, dI)) (ci := 11) (v := .ref q_5) (ty := (.array .int)) (C := RX10) (T := TX10) (N := 8) hx hb hws inlX10 tyX10 tyX10_ok nmX10 hown hK hP hD hS 0 rfl rfl 5 (by decide) (hws _ m_6_3) (fun _ h9 => h9) rfl hin rfl (by decide +kernel) rfl rfl (Nat.le_of_ble_eq_true rfl) dX10_init_40 (fun H locs hP hD hS => ?_)
  have hP : va_P (dC, dI) vwCl [(h0, .inr (11, [.int (-1), .int 0, .int 0, .ref q_1, .ref q_3, .ref q_5, .null, .null])), (q_1, .inl (k_2, 16, .inl (fun _ => 0))), (q_3, .inl (k_4, 16, .inl (fun _ => 0))), (q_5, .inl (k_6, 16, .inl (fun _ => 0)))] H := hP
  have hD : va_D A [(h0, .inr (11, [.int (-1), .int 0, .int 0, .ref q_1, .ref q_3, .ref q_5, .null, .null])), (q_1, .inl (k_2, 16, .inl (fun _ => 0))), (q_3, .inl (k_4, 16, .inl (fun _ => 0))), (q_5, .inl (k_6, 16, .inl (fun _ => 0)))] := hD
  refine lv_aload_n hx hb dX10_init_43 rfl (lv_at hl 0 rfl) ?_
  refine lv_bipush (v := 16) hx hb dX10_init_44 (by decide) ?_
  refine va_newa (atype := .int) (ty := .int) (N' := 16) (a0 := (16, .inl (fun _ => 0))) hx hb (hws _ m_3_14) rfl hK hP hD hS hA (fun _ => rfl) (by decide) (by decide) (by decide) (Nat.le_of_ble_eq_true rfl) (Nat.le_of_ble_eq_true rfl) dX10_init_46 (fun q_7 k_8 H hK hP hD hS => ?_)
  have hP : va_P (dC, dI) vwCl [(h0, .inr (11, [.int (-1), .int 0, .int 0, .ref q_1, .ref q_3, .ref q_5, .null, .null])), (q_1, .inl (k_2, 16, .inl (fun _ => 0))), (q_3, .inl (k_4, 16, .inl (fun _ => 0))), (q_5, .inl (k_6, 16, .inl (fun _ => 0))), (q_7, .inl (k_8, 16, .inl (fun _ => 0)))] H := hP
  have hD : va_D A [(h0, .inr (11, [.int (-1), .int 0, .int 0, .ref q_1, .ref q_3, .ref q_5, .null, .null])), (q_1, .inl (k_2, 16, .inl (fun _ => 0))), (q_3, .inl (k_4, 16, .inl (fun _ => 0))), (q_5, .inl (k_6, 16, .inl (fun _ => 0))), (q_7, .inl (k_8, 16, .inl (fun _ => 0)))] := hD
  have hK : va_K (dC, dI) vwCl [(k_2, .int), (k_4, .int), (k_6, .int), (k_8, .int)] s := hK
  refine W.widen (k := 4) (n := 64) (Nat.le_of_ble_eq_true rfl) (Nat.le_of_ble_eq_true rfl) ?_
  refine va_putF (D := (dC, dI)) (ci := 11) (v := .ref q_7) (ty := (.array .int)) (C := RX10) (T := TX10) (N := 8) hx hb hws inlX10 tyX10 tyX10_ok nmX10 hown hK hP hD hS 0 rfl rfl 6 (by decide) (hws _ m_6_4) (fun _ h9 => h9) rfl hin rfl (by decide +kernel) rfl rfl (Nat.le_of_ble_eq_true rfl) dX10_init_48 (fun H locs hP hD hS => ?_)
  have hP : va_P (dC, dI) vwCl [(h0, .inr (11, [.int (-1), .int 0, .int 0, .ref q_1, .ref q_3, .ref q_5, .ref q_7, .null])), (q_1, .inl (k_2, 16, .inl (fun _ => 0))), (q_3, .inl (k_4, 16, .inl (fun _ => 0))), (q_5, .inl (k_6, 16, .inl (fun _ => 0))), (q_7, .inl (k_8, 16, .inl (fun _ => 0)))] H := hP
  have hD : va_D A [(h0, .inr (11, [.int (-1), .int 0, .int 0, .ref q_1, .ref q_3, .ref q_5, .ref q_7, .null])), (q_1, .inl (k_2, 16, .inl (fun _ => 0))), (q_3, .inl (k_4, 16, .inl (fun _ => 0))), (q_5, .inl (k_6, 16, .inl (fun _ => 0))), (q_7, .inl (k_8, 16, .inl (fun _ => 0)))] := hD
  refine lv_aload_n hx hb dX10_init_51 rfl (lv_at hl 0 rfl) ?_
  refine lv_bipush (v := 100) hx hb dX10_init_52 (by decide) ?_
  refine va_newa (atype := .int) (ty := .int) (N' := 100) (a0 := (100, .inl (fun _ => 0))) hx hb (hws _ m_3_14) rfl hK hP hD hS hA (fun _ => rfl) (by decide) (by decide) (by decide) (Nat.le_of_ble_eq_true rfl) (Nat.le_of_ble_eq_true rfl) dX10_init_54 (fun q_9 k_10 H hK hP hD hS => ?_)
  have hP : va_P (dC, dI) vwCl [(h0, .inr (11, [.int (-1), .int 0, .int 0, .ref q_1, .ref q_3, .ref q_5, .ref q_7, .null])), (q_1, .inl (k_2, 16, .inl (fun _ => 0))), (q_3, .inl (k_4, 16, .inl (fun _ => 0))), (q_5, .inl (k_6, 16, .inl (fun _ => 0))), (q_7, .inl (k_8, 16, .inl (fun _ => 0))), (q_9, .inl (k_10, 100, .inl (fun _ => 0)))] H := hP
  have hD : va_D A [(h0, .inr (11, [.int (-1), .int 0, .int 0, .ref q_1, .ref q_3, .ref q_5, .ref q_7, .null])), (q_1, .inl (k_2, 16, .inl (fun _ => 0))), (q_3, .inl (k_4, 16, .inl (fun _ => 0))), (q_5, .inl (k_6, 16, .inl (fun _ => 0))), (q_7, .inl (k_8, 16, .inl (fun _ => 0))), (q_9, .inl (k_10, 100, .inl (fun _ => 0)))] := hD
  have hK : va_K (dC, dI) vwCl [(k_2, .int), (k_4, .int), (k_6, .int), (k_8, .int), (k_10, .int)] s := hK
  refine W.widen (k := 5) (n := 164) (Nat.le_of_ble_eq_true rfl) (Nat.le_of_ble_eq_true rfl) ?_
  refine va_putF (D := (dC, dI)) (ci := 11) (v := .ref q_9) (ty := (.array .int)) (C := RX10) (T := TX10) (N := 8) hx hb hws inlX10 tyX10 tyX10_ok nmX10 hown hK hP hD hS 0 rfl rfl 7 (by decide) (hws _ m_6_5) (fun _ h9 => h9) rfl hin rfl (by decide +kernel) rfl rfl (Nat.le_of_ble_eq_true rfl) dX10_init_56 (fun H locs hP hD hS => ?_)
  have hP : va_P (dC, dI) vwCl [(h0, .inr (11, [.int (-1), .int 0, .int 0, .ref q_1, .ref q_3, .ref q_5, .ref q_7, .ref q_9])), (q_1, .inl (k_2, 16, .inl (fun _ => 0))), (q_3, .inl (k_4, 16, .inl (fun _ => 0))), (q_5, .inl (k_6, 16, .inl (fun _ => 0))), (q_7, .inl (k_8, 16, .inl (fun _ => 0))), (q_9, .inl (k_10, 100, .inl (fun _ => 0)))] H := hP
  have hD : va_D A [(h0, .inr (11, [.int (-1), .int 0, .int 0, .ref q_1, .ref q_3, .ref q_5, .ref q_7, .ref q_9])), (q_1, .inl (k_2, 16, .inl (fun _ => 0))), (q_3, .inl (k_4, 16, .inl (fun _ => 0))), (q_5, .inl (k_6, 16, .inl (fun _ => 0))), (q_7, .inl (k_8, 16, .inl (fun _ => 0))), (q_9, .inl (k_10, 100, .inl (fun _ => 0)))] := hD
  have hK9 := hK.sub (tys' := [(k_2, .int), (k_4, .int), (k_6, .int), (k_8, .int), (k_10, .int)]) [0, 1, 2, 3, 4] rfl
  exact W.vret hx hb hr (fun t ht hW => ⟨⟨(), rfl, trivial, ⟨(fun k9 => ([q_1, q_3, q_5, q_7, q_9] : List (Nat)).getD k9 0), (fun k9 => ([k_2, k_4, k_6, k_8, k_10] : List ClassId).getD k9 default), (fun k9 => ([] : List (Nat → Int32)).getD k9 (fun _ => 0)), (fun k9 => ([] : List (Int32)).getD k9 0), (fun k9 => ([] : List (Nat → Nat)).getD k9 (fun _ => 0)), by rw [ht]; exact hP, va_K.moved hW.alike hK9, hD⟩⟩, hS.F ht⟩) hS.2.2 dX10_init_59

set_option maxHeartbeats 4000000 in
set_option maxRecDepth 100000 in
theorem c_X7_init_v1 (l : Launch) (dC : Nat → ClassId) (dI : Nat → Nat → Nat) (h0 : Nat) (sz : Nat) : Met l yX7_init (Cond.code yX7_init cX7_init 1 none :: wsL_law) ({ frames := 1, cells := 2, slots := 602, locals := 12 }) (va_Pc [.ref h0] (fun U => U.heap.size = sz ∧ va_P (dC, dI) vwCl [(h0, .inr (8, [.null, .null, .int 0, .int 0, .int 0, .int 0, .int 0]))] U.heap ∧ va_K (dC, dI) vwCl [] U ∧ va_D (fun _ => True) [(h0, .inr (8, [.null, .null, .int 0, .int 0, .int 0, .int 0, .int 0]))])) (va_Qv (fun (_ : Unit) => True) (fun (_ : Unit) (t : State) => ∃ (qa : Nat → Nat) (qc : Nat → ClassId) (qg : Nat → Nat → Int32) (qz : Nat → Int32) (qr : Nat → Nat → Nat), va_P (dC, dI) vwCl [(h0, .inr (8, [.ref (qa 0), .ref (qa 1), .int 0, .int 0, .int 0, .int 0, .int 0])), ((qa 0), .inl ((qc 0), 301, .inl (fun _ => 0))), ((qa 1), .inl ((qc 1), 301, .inl (fun _ => 0)))] t.heap ∧ va_K (dC, dI) vwCl [((qc 0), .int), ((qc 1), .int)] t ∧ va_D (va_A [(h0, .inr (8, [.null, .null, .int 0, .int 0, .int 0, .int 0, .int 0]))] sz) [(h0, .inr (8, [.ref (qa 0), .ref (qa 1), .int 0, .int 0, .int 0, .int 0, .int 0])), ((qa 0), .inl ((qc 0), 301, .inl (fun _ => 0))), ((qa 1), .inl ((qc 1), 301, .inl (fun _ => 0)))]) (va_A [(h0, .inr (8, [.null, .null, .int 0, .int 0, .int 0, .int 0, .int 0]))] sz)) 2 602 (va_A [(h0, .inr (8, [.null, .null, .int 0, .int 0, .int 0, .int 0, .int 0]))] sz) := by
  refine Met.ofW (cc := cX7_init) (maxL := 1) (ret := none) (by decide) rfl ?_
  intro p e s m args below meth c s₁ B hml hv
  obtain ⟨rfl, hsz, hP, hK, hD0⟩ := hv
  have hx := B.exec
  have hb := B.bytes
  have hr := B.returns
  have hts := atoms_spec (ws := Cond.code yX7_init cX7_init 1 none :: wsL_law) B.pre
  have hws : ∀ w ∈ wsL_law, w.before _ s = true := fun w h => hts w (List.mem_cons_of_mem _ h)
  have hown : s.vm.findClass RX7 = some m.cls := findClass_of_methodNamed B.named
  have hlocks := B.notSynchronized
  have hin : meth.name = "<init>" := (name_of_methodNamed B.named B.method).1
  subst hsz
  have hD := hD0.self (sz := s.heap.size)
  generalize hAe : va_A [(h0, .inr (8, [.null, .null, .int 0, .int 0, .int 0, .int 0, .int 0]))] s.heap.size = A at hD ⊢
  have hA : ∀ q : Nat, s.heap.size ≤ q → A q := fun q h => by rw [← hAe]; exact Or.inr h
  have hS : va_S A s.heap s.heap [] := va_S.rf
  have hP : va_P (dC, dI) vwCl [(h0, .inr (8, [.null, .null, .int 0, .int 0, .int 0, .int 0, .int 0]))] s.heap := hP
  have hl := lv_entry ([.ref h0]) (n := 1) (Nat.le_of_ble_eq_true rfl)
  rw [lg_entry_eq]
  generalize (lg_sl ([.ref h0]) ++ List.replicate (1 - (lg_sl ([.ref h0])).length) Slot.unset).toArray = ls at hl ⊢
  have hl : lv_has ls 1 [(0, .ref h0)] := hl
  refine lv_aload_n hx hb dX7_init_0 rfl (lv_at hl 0 rfl) ?_
  refine W.objInit hx hb hown (hws _ m_6_8) (hws _ m_1_11) (hws _ m_1_12) rfl (by rw [hml]; exact hl.1) rfl dX7_init_1 (Nat.le_of_ble_eq_true rfl) (Nat.le_of_ble_eq_true rfl) ?_
  refine W.eq (g2 := F0 m 4 ls []) rfl ?_
  refine lv_aload_n hx hb dX7_init_4 rfl (lv_at hl 0 rfl) ?_
  refine lv_sipush (v := 301) hx hb dX7_init_5 (by decide) ?_
  refine va_newa (atype := .int) (ty := .int) (N' := 301) (a0 := (301, .inl (fun _ => 0))) hx hb (hws _ m_3_14) rfl hK hP hD hS hA (fun _ => rfl) (by decide) (by decide) (by decide) (Nat.le_of_ble_eq_true rfl) (Nat.le_of_ble_eq_true rfl) dX7_init_8 (fun q_1 k_2 H hK hP hD hS => ?_)
  have hP : va_P (dC, dI) vwCl [(h0, .inr (8, [.null, .null, .int 0, .int 0, .int 0, .int 0, .int 0])), (q_1, .inl (k_2, 301, .inl (fun _ => 0)))] H := hP
  have hD : va_D A [(h0, .inr (8, [.null, .null, .int 0, .int 0, .int 0, .int 0, .int 0])), (q_1, .inl (k_2, 301, .inl (fun _ => 0)))] := hD
  have hK : va_K (dC, dI) vwCl [(k_2, .int)] s := hK
  refine W.widen (k := 1) (n := 301) (Nat.le_of_ble_eq_true rfl) (Nat.le_of_ble_eq_true rfl) ?_
  refine va_putF (D := (dC, dI)) (ci := 8) (v := .ref q_1) (ty := (.array .int)) (C := RX7) (T := TX7) (N := 7) hx hb hws inlX7 tyX7 tyX7_ok nmX7 hown hK hP hD hS 0 rfl rfl 0 (by decide) (hws _ m_6_9) (fun _ h9 => h9) rfl hin rfl (by decide +kernel) rfl rfl (Nat.le_of_ble_eq_true rfl) dX7_init_10 (fun H locs hP hD hS => ?_)
  have hP : va_P (dC, dI) vwCl [(h0, .inr (8, [.ref q_1, .null, .int 0, .int 0, .int 0, .int 0, .int 0])), (q_1, .inl (k_2, 301, .inl (fun _ => 0)))] H := hP
  have hD : va_D A [(h0, .inr (8, [.ref q_1, .null, .int 0, .int 0, .int 0, .int 0, .int 0])), (q_1, .inl (k_2, 301, .inl (fun _ => 0)))] := hD
  refine lv_aload_n hx hb dX7_init_13 rfl (lv_at hl 0 rfl) ?_
  refine lv_sipush (v := 301) hx hb dX7_init_14 (by decide) ?_
  refine va_newa (atype := .int) (ty := .int) (N' := 301) (a0 := (301, .inl (fun _ => 0))) hx hb (hws _ m_3_14) rfl hK hP hD hS hA (fun _ => rfl) (by decide) (by decide) (by decide) (Nat.le_of_ble_eq_true rfl) (Nat.le_of_ble_eq_true rfl) dX7_init_17 (fun q_3 k_4 H hK hP hD hS => ?_)
  have hP : va_P (dC, dI) vwCl [(h0, .inr (8, [.ref q_1, .null, .int 0, .int 0, .int 0, .int 0, .int 0])), (q_1, .inl (k_2, 301, .inl (fun _ => 0))), (q_3, .inl (k_4, 301, .inl (fun _ => 0)))] H := hP
  have hD : va_D A [(h0, .inr (8, [.ref q_1, .null, .int 0, .int 0, .int 0, .int 0, .int 0])), (q_1, .inl (k_2, 301, .inl (fun _ => 0))), (q_3, .inl (k_4, 301, .inl (fun _ => 0)))] := hD
  have hK : va_K (dC, dI) vwCl [(k_2, .int), (k_4, .int)] s := hK
  refine W.widen (k := 2) (n := 602) (Nat.le_of_ble_eq_true rfl) (Nat.le_of_ble_eq_true rfl) ?_
  refine va_putF (D := (dC, dI)) (ci := 8) (v := .ref q_3) (ty := (.array .int)) (C := RX7) (T := TX7) (N := 7) hx hb hws inlX7 tyX7 tyX7_ok nmX7 hown hK hP hD hS 0 rfl rfl 1 (by decide) (hws _ m_6_10) (fun _ h9 => h9) rfl hin rfl (by decide +kernel) rfl rfl (Nat.le_of_ble_eq_true rfl) dX7_init_19 (fun H locs hP hD hS => ?_)
  have hP : va_P (dC, dI) vwCl [(h0, .inr (8, [.ref q_1, .ref q_3, .int 0, .int 0, .int 0, .int 0, .int 0])), (q_1, .inl (k_2, 301, .inl (fun _ => 0))), (q_3, .inl (k_4, 301, .inl (fun _ => 0)))] H := hP
  have hD : va_D A [(h0, .inr (8, [.ref q_1, .ref q_3, .int 0, .int 0, .int 0, .int 0, .int 0])), (q_1, .inl (k_2, 301, .inl (fun _ => 0))), (q_3, .inl (k_4, 301, .inl (fun _ => 0)))] := hD
  refine lv_aload_n hx hb dX7_init_22 rfl (lv_at hl 0 rfl) ?_
  refine lv_iconst (v := 0) hx hb dX7_init_23 (by decide) ?_
  refine va_put (D := (dC, dI)) (ci := 8) (v := .int 0) (ty := .int) (C := RX7) (T := TX7) (N := 7) hx hb hws inlX7 tyX7 tyX7_ok nmX7 hown hK hP hD hS 0 rfl rfl 2 (by decide) (hws _ m_6_11) (fun _ h9 => h9) rfl (by decide +kernel) rfl rfl (Nat.le_of_ble_eq_true rfl) dX7_init_24 (fun H locs hP hD hS => ?_)
  have hP : va_P (dC, dI) vwCl [(h0, .inr (8, [.ref q_1, .ref q_3, .int 0, .int 0, .int 0, .int 0, .int 0])), (q_1, .inl (k_2, 301, .inl (fun _ => 0))), (q_3, .inl (k_4, 301, .inl (fun _ => 0)))] H := hP
  have hD : va_D A [(h0, .inr (8, [.ref q_1, .ref q_3, .int 0, .int 0, .int 0, .int 0, .int 0])), (q_1, .inl (k_2, 301, .inl (fun _ => 0))), (q_3, .inl (k_4, 301, .inl (fun _ => 0)))] := hD
  refine lv_aload_n hx hb dX7_init_27 rfl (lv_at hl 0 rfl) ?_
  refine lv_iconst (v := 0) hx hb dX7_init_28 (by decide) ?_
  refine va_put (D := (dC, dI)) (ci := 8) (v := .int 0) (ty := .int) (C := RX7) (T := TX7) (N := 7) hx hb hws inlX7 tyX7 tyX7_ok nmX7 hown hK hP hD hS 0 rfl rfl 3 (by decide) (hws _ m_6_12) (fun _ h9 => h9) rfl (by decide +kernel) rfl rfl (Nat.le_of_ble_eq_true rfl) dX7_init_29 (fun H locs hP hD hS => ?_)
  have hP : va_P (dC, dI) vwCl [(h0, .inr (8, [.ref q_1, .ref q_3, .int 0, .int 0, .int 0, .int 0, .int 0])), (q_1, .inl (k_2, 301, .inl (fun _ => 0))), (q_3, .inl (k_4, 301, .inl (fun _ => 0)))] H := hP
  have hD : va_D A [(h0, .inr (8, [.ref q_1, .ref q_3, .int 0, .int 0, .int 0, .int 0, .int 0])), (q_1, .inl (k_2, 301, .inl (fun _ => 0))), (q_3, .inl (k_4, 301, .inl (fun _ => 0)))] := hD
  refine lv_aload_n hx hb dX7_init_32 rfl (lv_at hl 0 rfl) ?_
  refine lv_iconst (v := 0) hx hb dX7_init_33 (by decide) ?_
  refine va_put (D := (dC, dI)) (ci := 8) (v := .int 0) (ty := .boolean) (C := RX7) (T := TX7) (N := 7) hx hb hws inlX7 tyX7 tyX7_ok nmX7 hown hK hP hD hS 0 rfl rfl 4 (by decide) (hws _ m_6_13) (fun _ h9 => h9) rfl (by decide +kernel) rfl rfl (Nat.le_of_ble_eq_true rfl) dX7_init_34 (fun H locs hP hD hS => ?_)
  have hP : va_P (dC, dI) vwCl [(h0, .inr (8, [.ref q_1, .ref q_3, .int 0, .int 0, .int 0, .int 0, .int 0])), (q_1, .inl (k_2, 301, .inl (fun _ => 0))), (q_3, .inl (k_4, 301, .inl (fun _ => 0)))] H := hP
  have hD : va_D A [(h0, .inr (8, [.ref q_1, .ref q_3, .int 0, .int 0, .int 0, .int 0, .int 0])), (q_1, .inl (k_2, 301, .inl (fun _ => 0))), (q_3, .inl (k_4, 301, .inl (fun _ => 0)))] := hD
  refine lv_aload_n hx hb dX7_init_37 rfl (lv_at hl 0 rfl) ?_
  refine lv_iconst (v := 0) hx hb dX7_init_38 (by decide) ?_
  refine va_put (D := (dC, dI)) (ci := 8) (v := .int 0) (ty := .int) (C := RX7) (T := TX7) (N := 7) hx hb hws inlX7 tyX7 tyX7_ok nmX7 hown hK hP hD hS 0 rfl rfl 5 (by decide) (hws _ m_6_14) (fun _ h9 => h9) rfl (by decide +kernel) rfl rfl (Nat.le_of_ble_eq_true rfl) dX7_init_39 (fun H locs hP hD hS => ?_)
  have hP : va_P (dC, dI) vwCl [(h0, .inr (8, [.ref q_1, .ref q_3, .int 0, .int 0, .int 0, .int 0, .int 0])), (q_1, .inl (k_2, 301, .inl (fun _ => 0))), (q_3, .inl (k_4, 301, .inl (fun _ => 0)))] H := hP
  have hD : va_D A [(h0, .inr (8, [.ref q_1, .ref q_3, .int 0, .int 0, .int 0, .int 0, .int 0])), (q_1, .inl (k_2, 301, .inl (fun _ => 0))), (q_3, .inl (k_4, 301, .inl (fun _ => 0)))] := hD
  refine lv_aload_n hx hb dX7_init_42 rfl (lv_at hl 0 rfl) ?_
  refine lv_iconst (v := 0) hx hb dX7_init_43 (by decide) ?_
  refine va_put (D := (dC, dI)) (ci := 8) (v := .int 0) (ty := .int) (C := RX7) (T := TX7) (N := 7) hx hb hws inlX7 tyX7 tyX7_ok nmX7 hown hK hP hD hS 0 rfl rfl 6 (by decide) (hws _ m_6_15) (fun _ h9 => h9) rfl (by decide +kernel) rfl rfl (Nat.le_of_ble_eq_true rfl) dX7_init_44 (fun H locs hP hD hS => ?_)
  have hP : va_P (dC, dI) vwCl [(h0, .inr (8, [.ref q_1, .ref q_3, .int 0, .int 0, .int 0, .int 0, .int 0])), (q_1, .inl (k_2, 301, .inl (fun _ => 0))), (q_3, .inl (k_4, 301, .inl (fun _ => 0)))] H := hP
  have hD : va_D A [(h0, .inr (8, [.ref q_1, .ref q_3, .int 0, .int 0, .int 0, .int 0, .int 0])), (q_1, .inl (k_2, 301, .inl (fun _ => 0))), (q_3, .inl (k_4, 301, .inl (fun _ => 0)))] := hD
  have hK9 := hK.sub (tys' := [(k_2, .int), (k_4, .int)]) [0, 1] rfl
  exact W.vret hx hb hr (fun t ht hW => ⟨⟨(), rfl, trivial, ⟨(fun k9 => ([q_1, q_3] : List (Nat)).getD k9 0), (fun k9 => ([k_2, k_4] : List ClassId).getD k9 default), (fun k9 => ([] : List (Nat → Int32)).getD k9 (fun _ => 0)), (fun k9 => ([] : List (Int32)).getD k9 0), (fun k9 => ([] : List (Nat → Nat)).getD k9 (fun _ => 0)), by rw [ht]; exact hP, va_K.moved hW.alike hK9, hD⟩⟩, hS.F ht⟩) hS.2.2 dX7_init_47

set_option maxHeartbeats 4000000 in
set_option maxRecDepth 100000 in
theorem c_X2_init_v1 (l : Launch) (dC : Nat → ClassId) (dI : Nat → Nat → Nat) (h0 : Nat) (sz : Nat) : Met l yX2_init (Cond.code yX2_init cX2_init 1 none :: wsL_law) ({ frames := 1, cells := 2, slots := 48, locals := 12 }) (va_Pc [.ref h0] (fun U => U.heap.size = sz ∧ va_P (dC, dI) vwCl [(h0, .inr (3, [.null, .null, .int 0, .long 0]))] U.heap ∧ va_K (dC, dI) vwCl [] U ∧ va_D (fun _ => True) [(h0, .inr (3, [.null, .null, .int 0, .long 0]))])) (va_Qv (fun (_ : Unit) => True) (fun (_ : Unit) (t : State) => ∃ (qa : Nat → Nat) (qc : Nat → ClassId) (qg : Nat → Nat → Int32) (qz : Nat → Int32) (qr : Nat → Nat → Nat), va_P (dC, dI) vwCl [(h0, .inr (3, [.ref (qa 0), .ref (qa 1), .int 0, .long 0])), ((qa 0), .inl ((qc 0), 24, .inl (fun _ => 0))), ((qa 1), .inl ((qc 1), 24, .inl (fun _ => 0)))] t.heap ∧ va_K (dC, dI) vwCl [((qc 0), .int), ((qc 1), .int)] t ∧ va_D (va_A [(h0, .inr (3, [.null, .null, .int 0, .long 0]))] sz) [(h0, .inr (3, [.ref (qa 0), .ref (qa 1), .int 0, .long 0])), ((qa 0), .inl ((qc 0), 24, .inl (fun _ => 0))), ((qa 1), .inl ((qc 1), 24, .inl (fun _ => 0)))]) (va_A [(h0, .inr (3, [.null, .null, .int 0, .long 0]))] sz)) 2 48 (va_A [(h0, .inr (3, [.null, .null, .int 0, .long 0]))] sz) := by
  refine Met.ofW (cc := cX2_init) (maxL := 1) (ret := none) (by decide) rfl ?_
  intro p e s m args below meth c s₁ B hml hv
  obtain ⟨rfl, hsz, hP, hK, hD0⟩ := hv
  have hx := B.exec
  have hb := B.bytes
  have hr := B.returns
  have hts := atoms_spec (ws := Cond.code yX2_init cX2_init 1 none :: wsL_law) B.pre
  have hws : ∀ w ∈ wsL_law, w.before _ s = true := fun w h => hts w (List.mem_cons_of_mem _ h)
  have hown : s.vm.findClass RX2 = some m.cls := findClass_of_methodNamed B.named
  have hlocks := B.notSynchronized
  have hin : meth.name = "<init>" := (name_of_methodNamed B.named B.method).1
  subst hsz
  have hD := hD0.self (sz := s.heap.size)
  generalize hAe : va_A [(h0, .inr (3, [.null, .null, .int 0, .long 0]))] s.heap.size = A at hD ⊢
  have hA : ∀ q : Nat, s.heap.size ≤ q → A q := fun q h => by rw [← hAe]; exact Or.inr h
  have hS : va_S A s.heap s.heap [] := va_S.rf
  have hP : va_P (dC, dI) vwCl [(h0, .inr (3, [.null, .null, .int 0, .long 0]))] s.heap := hP
  have hl := lv_entry ([.ref h0]) (n := 1) (Nat.le_of_ble_eq_true rfl)
  rw [lg_entry_eq]
  generalize (lg_sl ([.ref h0]) ++ List.replicate (1 - (lg_sl ([.ref h0])).length) Slot.unset).toArray = ls at hl ⊢
  have hl : lv_has ls 1 [(0, .ref h0)] := hl
  refine lv_aload_n hx hb dX2_init_0 rfl (lv_at hl 0 rfl) ?_
  refine W.objInit hx hb hown (hws _ m_6_18) (hws _ m_1_11) (hws _ m_1_12) rfl (by rw [hml]; exact hl.1) rfl dX2_init_1 (Nat.le_of_ble_eq_true rfl) (Nat.le_of_ble_eq_true rfl) ?_
  refine W.eq (g2 := F0 m 4 ls []) rfl ?_
  refine lv_aload_n hx hb dX2_init_4 rfl (lv_at hl 0 rfl) ?_
  refine lv_bipush (v := 24) hx hb dX2_init_5 (by decide) ?_
  refine va_newa (atype := .int) (ty := .int) (N' := 24) (a0 := (24, .inl (fun _ => 0))) hx hb (hws _ m_3_14) rfl hK hP hD hS hA (fun _ => rfl) (by decide) (by decide) (by decide) (Nat.le_of_ble_eq_true rfl) (Nat.le_of_ble_eq_true rfl) dX2_init_7 (fun q_1 k_2 H hK hP hD hS => ?_)
  have hP : va_P (dC, dI) vwCl [(h0, .inr (3, [.null, .null, .int 0, .long 0])), (q_1, .inl (k_2, 24, .inl (fun _ => 0)))] H := hP
  have hD : va_D A [(h0, .inr (3, [.null, .null, .int 0, .long 0])), (q_1, .inl (k_2, 24, .inl (fun _ => 0)))] := hD
  have hK : va_K (dC, dI) vwCl [(k_2, .int)] s := hK
  refine W.widen (k := 1) (n := 24) (Nat.le_of_ble_eq_true rfl) (Nat.le_of_ble_eq_true rfl) ?_
  refine va_putF (D := (dC, dI)) (ci := 3) (v := .ref q_1) (ty := (.array .int)) (C := RX2) (T := TX2) (N := 4) hx hb hws inlX2 tyX2 tyX2_ok nmX2 hown hK hP hD hS 0 rfl rfl 0 (by decide) (hws _ m_6_19) (fun _ h9 => h9) rfl hin rfl (by decide +kernel) rfl rfl (Nat.le_of_ble_eq_true rfl) dX2_init_9 (fun H locs hP hD hS => ?_)
  have hP : va_P (dC, dI) vwCl [(h0, .inr (3, [.ref q_1, .null, .int 0, .long 0])), (q_1, .inl (k_2, 24, .inl (fun _ => 0)))] H := hP
  have hD : va_D A [(h0, .inr (3, [.ref q_1, .null, .int 0, .long 0])), (q_1, .inl (k_2, 24, .inl (fun _ => 0)))] := hD
  refine lv_aload_n hx hb dX2_init_12 rfl (lv_at hl 0 rfl) ?_
  refine lv_bipush (v := 24) hx hb dX2_init_13 (by decide) ?_
  refine va_newa (atype := .int) (ty := .int) (N' := 24) (a0 := (24, .inl (fun _ => 0))) hx hb (hws _ m_3_14) rfl hK hP hD hS hA (fun _ => rfl) (by decide) (by decide) (by decide) (Nat.le_of_ble_eq_true rfl) (Nat.le_of_ble_eq_true rfl) dX2_init_15 (fun q_3 k_4 H hK hP hD hS => ?_)
  have hP : va_P (dC, dI) vwCl [(h0, .inr (3, [.ref q_1, .null, .int 0, .long 0])), (q_1, .inl (k_2, 24, .inl (fun _ => 0))), (q_3, .inl (k_4, 24, .inl (fun _ => 0)))] H := hP
  have hD : va_D A [(h0, .inr (3, [.ref q_1, .null, .int 0, .long 0])), (q_1, .inl (k_2, 24, .inl (fun _ => 0))), (q_3, .inl (k_4, 24, .inl (fun _ => 0)))] := hD
  have hK : va_K (dC, dI) vwCl [(k_2, .int), (k_4, .int)] s := hK
  refine W.widen (k := 2) (n := 48) (Nat.le_of_ble_eq_true rfl) (Nat.le_of_ble_eq_true rfl) ?_
  refine va_putF (D := (dC, dI)) (ci := 3) (v := .ref q_3) (ty := (.array .int)) (C := RX2) (T := TX2) (N := 4) hx hb hws inlX2 tyX2 tyX2_ok nmX2 hown hK hP hD hS 0 rfl rfl 1 (by decide) (hws _ m_6_20) (fun _ h9 => h9) rfl hin rfl (by decide +kernel) rfl rfl (Nat.le_of_ble_eq_true rfl) dX2_init_17 (fun H locs hP hD hS => ?_)
  have hP : va_P (dC, dI) vwCl [(h0, .inr (3, [.ref q_1, .ref q_3, .int 0, .long 0])), (q_1, .inl (k_2, 24, .inl (fun _ => 0))), (q_3, .inl (k_4, 24, .inl (fun _ => 0)))] H := hP
  have hD : va_D A [(h0, .inr (3, [.ref q_1, .ref q_3, .int 0, .long 0])), (q_1, .inl (k_2, 24, .inl (fun _ => 0))), (q_3, .inl (k_4, 24, .inl (fun _ => 0)))] := hD
  refine lv_aload_n hx hb dX2_init_20 rfl (lv_at hl 0 rfl) ?_
  refine lv_iconst (v := 0) hx hb dX2_init_21 (by decide) ?_
  refine va_put (D := (dC, dI)) (ci := 3) (v := .int 0) (ty := .int) (C := RX2) (T := TX2) (N := 4) hx hb hws inlX2 tyX2 tyX2_ok nmX2 hown hK hP hD hS 0 rfl rfl 2 (by decide) (hws _ m_6_21) (fun _ h9 => h9) rfl (by decide +kernel) rfl rfl (Nat.le_of_ble_eq_true rfl) dX2_init_22 (fun H locs hP hD hS => ?_)
  have hP : va_P (dC, dI) vwCl [(h0, .inr (3, [.ref q_1, .ref q_3, .int 0, .long 0])), (q_1, .inl (k_2, 24, .inl (fun _ => 0))), (q_3, .inl (k_4, 24, .inl (fun _ => 0)))] H := hP
  have hD : va_D A [(h0, .inr (3, [.ref q_1, .ref q_3, .int 0, .long 0])), (q_1, .inl (k_2, 24, .inl (fun _ => 0))), (q_3, .inl (k_4, 24, .inl (fun _ => 0)))] := hD
  refine lv_aload_n hx hb dX2_init_25 rfl (lv_at hl 0 rfl) ?_
  refine lv_lconst (v := 0) hx hb dX2_init_26 (by decide) ?_
  refine va_put (D := (dC, dI)) (ci := 3) (v := .long 0) (ty := .long) (C := RX2) (T := TX2) (N := 4) hx hb hws inlX2 tyX2 tyX2_ok nmX2 hown hK hP hD hS 0 rfl rfl 3 (by decide) (hws _ m_6_22) (fun _ h9 => h9) rfl (by decide +kernel) rfl rfl (Nat.le_of_ble_eq_true rfl) dX2_init_27 (fun H locs hP hD hS => ?_)
  have hP : va_P (dC, dI) vwCl [(h0, .inr (3, [.ref q_1, .ref q_3, .int 0, .long 0])), (q_1, .inl (k_2, 24, .inl (fun _ => 0))), (q_3, .inl (k_4, 24, .inl (fun _ => 0)))] H := hP
  have hD : va_D A [(h0, .inr (3, [.ref q_1, .ref q_3, .int 0, .long 0])), (q_1, .inl (k_2, 24, .inl (fun _ => 0))), (q_3, .inl (k_4, 24, .inl (fun _ => 0)))] := hD
  have hK9 := hK.sub (tys' := [(k_2, .int), (k_4, .int)]) [0, 1] rfl
  exact W.vret hx hb hr (fun t ht hW => ⟨⟨(), rfl, trivial, ⟨(fun k9 => ([q_1, q_3] : List (Nat)).getD k9 0), (fun k9 => ([k_2, k_4] : List ClassId).getD k9 default), (fun k9 => ([] : List (Nat → Int32)).getD k9 (fun _ => 0)), (fun k9 => ([] : List (Int32)).getD k9 0), (fun k9 => ([] : List (Nat → Nat)).getD k9 (fun _ => 0)), by rw [ht]; exact hP, va_K.moved hW.alike hK9, hD⟩⟩, hS.F ht⟩) hS.2.2 dX2_init_30

set_option maxHeartbeats 4000000 in
set_option maxRecDepth 100000 in
theorem c_X8_init_v1 (l : Launch) (dC : Nat → ClassId) (dI : Nat → Nat → Nat) (h0 : Nat) (sz : Nat) : Met l yX8_init (Cond.code yX8_init cX8_init 1 none :: wsL_law) ({ frames := 1, cells := 4, slots := 27, locals := 12 }) (va_Pc [.ref h0] (fun U => U.heap.size = sz ∧ va_P (dC, dI) vwCl [(h0, .inr (9, [.null, .null, .null, .null, .int 0, .int 0]))] U.heap ∧ va_K (dC, dI) vwCl [] U ∧ va_D (fun _ => True) [(h0, .inr (9, [.null, .null, .null, .null, .int 0, .int 0]))])) (va_Qv (fun (_ : Unit) => True) (fun (_ : Unit) (t : State) => ∃ (qa : Nat → Nat) (qc : Nat → ClassId) (qg : Nat → Nat → Int32) (qz : Nat → Int32) (qr : Nat → Nat → Nat), va_P (dC, dI) vwCl [(h0, .inr (9, [.ref (qa 0), .ref (qa 1), .ref (qa 2), .ref (qa 3), .int 0, .int 0])), ((qa 0), .inl ((qc 0), 9, .inl (fun _ => 0))), ((qa 1), .inl ((qc 1), 9, .inl (fun _ => 0))), ((qa 2), .inl ((qc 2), 9, .inl (fun _ => 0))), ((qa 3), .inl ((qc 3), 0, .inl (fun _ => 0)))] t.heap ∧ va_K (dC, dI) vwCl [((qc 0), .int), ((qc 1), .int), ((qc 2), .int), ((qc 3), .int)] t ∧ va_D (va_A [(h0, .inr (9, [.null, .null, .null, .null, .int 0, .int 0]))] sz) [(h0, .inr (9, [.ref (qa 0), .ref (qa 1), .ref (qa 2), .ref (qa 3), .int 0, .int 0])), ((qa 0), .inl ((qc 0), 9, .inl (fun _ => 0))), ((qa 1), .inl ((qc 1), 9, .inl (fun _ => 0))), ((qa 2), .inl ((qc 2), 9, .inl (fun _ => 0))), ((qa 3), .inl ((qc 3), 0, .inl (fun _ => 0)))]) (va_A [(h0, .inr (9, [.null, .null, .null, .null, .int 0, .int 0]))] sz)) 4 27 (va_A [(h0, .inr (9, [.null, .null, .null, .null, .int 0, .int 0]))] sz) := by
  refine Met.ofW (cc := cX8_init) (maxL := 1) (ret := none) (by decide) rfl ?_
  intro p e s m args below meth c s₁ B hml hv
  obtain ⟨rfl, hsz, hP, hK, hD0⟩ := hv
  have hx := B.exec
  have hb := B.bytes
  have hr := B.returns
  have hts := atoms_spec (ws := Cond.code yX8_init cX8_init 1 none :: wsL_law) B.pre
  have hws : ∀ w ∈ wsL_law, w.before _ s = true := fun w h => hts w (List.mem_cons_of_mem _ h)
  have hown : s.vm.findClass RX8 = some m.cls := findClass_of_methodNamed B.named
  have hlocks := B.notSynchronized
  have hin : meth.name = "<init>" := (name_of_methodNamed B.named B.method).1
  subst hsz
  have hD := hD0.self (sz := s.heap.size)
  generalize hAe : va_A [(h0, .inr (9, [.null, .null, .null, .null, .int 0, .int 0]))] s.heap.size = A at hD ⊢
  have hA : ∀ q : Nat, s.heap.size ≤ q → A q := fun q h => by rw [← hAe]; exact Or.inr h
  have hS : va_S A s.heap s.heap [] := va_S.rf
  have hP : va_P (dC, dI) vwCl [(h0, .inr (9, [.null, .null, .null, .null, .int 0, .int 0]))] s.heap := hP
  have hl := lv_entry ([.ref h0]) (n := 1) (Nat.le_of_ble_eq_true rfl)
  rw [lg_entry_eq]
  generalize (lg_sl ([.ref h0]) ++ List.replicate (1 - (lg_sl ([.ref h0])).length) Slot.unset).toArray = ls at hl ⊢
  have hl : lv_has ls 1 [(0, .ref h0)] := hl
  refine lv_aload_n hx hb dX8_init_0 rfl (lv_at hl 0 rfl) ?_
  refine W.objInit hx hb hown (hws _ m_7_1) (hws _ m_1_11) (hws _ m_1_12) rfl (by rw [hml]; exact hl.1) rfl dX8_init_1 (Nat.le_of_ble_eq_true rfl) (Nat.le_of_ble_eq_true rfl) ?_
  refine W.eq (g2 := F0 m 4 ls []) rfl ?_
  refine lv_aload_n hx hb dX8_init_4 rfl (lv_at hl 0 rfl) ?_
  refine lv_bipush (v := 9) hx hb dX8_init_5 (by decide) ?_
  refine va_newa (atype := .int) (ty := .int) (N' := 9) (a0 := (9, .inl (fun _ => 0))) hx hb (hws _ m_3_14) rfl hK hP hD hS hA (fun _ => rfl) (by decide) (by decide) (by decide) (Nat.le_of_ble_eq_true rfl) (Nat.le_of_ble_eq_true rfl) dX8_init_7 (fun q_1 k_2 H hK hP hD hS => ?_)
  have hP : va_P (dC, dI) vwCl [(h0, .inr (9, [.null, .null, .null, .null, .int 0, .int 0])), (q_1, .inl (k_2, 9, .inl (fun _ => 0)))] H := hP
  have hD : va_D A [(h0, .inr (9, [.null, .null, .null, .null, .int 0, .int 0])), (q_1, .inl (k_2, 9, .inl (fun _ => 0)))] := hD
  have hK : va_K (dC, dI) vwCl [(k_2, .int)] s := hK
  refine W.widen (k := 1) (n := 9) (Nat.le_of_ble_eq_true rfl) (Nat.le_of_ble_eq_true rfl) ?_
  refine va_putF (D := (dC, dI)) (ci := 9) (v := .ref q_1) (ty := (.array .int)) (C := RX8) (T := TX8) (N := 6) hx hb hws inlX8 tyX8 tyX8_ok nmX8 hown hK hP hD hS 0 rfl rfl 0 (by decide) (hws _ m_7_2) (fun _ h9 => h9) rfl hin rfl (by decide +kernel) rfl rfl (Nat.le_of_ble_eq_true rfl) dX8_init_9 (fun H locs hP hD hS => ?_)
  have hP : va_P (dC, dI) vwCl [(h0, .inr (9, [.ref q_1, .null, .null, .null, .int 0, .int 0])), (q_1, .inl (k_2, 9, .inl (fun _ => 0)))] H := hP
  have hD : va_D A [(h0, .inr (9, [.ref q_1, .null, .null, .null, .int 0, .int 0])), (q_1, .inl (k_2, 9, .inl (fun _ => 0)))] := hD
  refine lv_aload_n hx hb dX8_init_12 rfl (lv_at hl 0 rfl) ?_
  refine lv_bipush (v := 9) hx hb dX8_init_13 (by decide) ?_
  refine va_newa (atype := .int) (ty := .int) (N' := 9) (a0 := (9, .inl (fun _ => 0))) hx hb (hws _ m_3_14) rfl hK hP hD hS hA (fun _ => rfl) (by decide) (by decide) (by decide) (Nat.le_of_ble_eq_true rfl) (Nat.le_of_ble_eq_true rfl) dX8_init_15 (fun q_3 k_4 H hK hP hD hS => ?_)
  have hP : va_P (dC, dI) vwCl [(h0, .inr (9, [.ref q_1, .null, .null, .null, .int 0, .int 0])), (q_1, .inl (k_2, 9, .inl (fun _ => 0))), (q_3, .inl (k_4, 9, .inl (fun _ => 0)))] H := hP
  have hD : va_D A [(h0, .inr (9, [.ref q_1, .null, .null, .null, .int 0, .int 0])), (q_1, .inl (k_2, 9, .inl (fun _ => 0))), (q_3, .inl (k_4, 9, .inl (fun _ => 0)))] := hD
  have hK : va_K (dC, dI) vwCl [(k_2, .int), (k_4, .int)] s := hK
  refine W.widen (k := 2) (n := 18) (Nat.le_of_ble_eq_true rfl) (Nat.le_of_ble_eq_true rfl) ?_
  refine va_putF (D := (dC, dI)) (ci := 9) (v := .ref q_3) (ty := (.array .int)) (C := RX8) (T := TX8) (N := 6) hx hb hws inlX8 tyX8 tyX8_ok nmX8 hown hK hP hD hS 0 rfl rfl 1 (by decide) (hws _ m_7_3) (fun _ h9 => h9) rfl hin rfl (by decide +kernel) rfl rfl (Nat.le_of_ble_eq_true rfl) dX8_init_17 (fun H locs hP hD hS => ?_)
  have hP : va_P (dC, dI) vwCl [(h0, .inr (9, [.ref q_1, .ref q_3, .null, .null, .int 0, .int 0])), (q_1, .inl (k_2, 9, .inl (fun _ => 0))), (q_3, .inl (k_4, 9, .inl (fun _ => 0)))] H := hP
  have hD : va_D A [(h0, .inr (9, [.ref q_1, .ref q_3, .null, .null, .int 0, .int 0])), (q_1, .inl (k_2, 9, .inl (fun _ => 0))), (q_3, .inl (k_4, 9, .inl (fun _ => 0)))] := hD
  refine lv_aload_n hx hb dX8_init_20 rfl (lv_at hl 0 rfl) ?_
  refine lv_bipush (v := 9) hx hb dX8_init_21 (by decide) ?_
  refine va_newa (atype := .int) (ty := .int) (N' := 9) (a0 := (9, .inl (fun _ => 0))) hx hb (hws _ m_3_14) rfl hK hP hD hS hA (fun _ => rfl) (by decide) (by decide) (by decide) (Nat.le_of_ble_eq_true rfl) (Nat.le_of_ble_eq_true rfl) dX8_init_23 (fun q_5 k_6 H hK hP hD hS => ?_)
  have hP : va_P (dC, dI) vwCl [(h0, .inr (9, [.ref q_1, .ref q_3, .null, .null, .int 0, .int 0])), (q_1, .inl (k_2, 9, .inl (fun _ => 0))), (q_3, .inl (k_4, 9, .inl (fun _ => 0))), (q_5, .inl (k_6, 9, .inl (fun _ => 0)))] H := hP
  have hD : va_D A [(h0, .inr (9, [.ref q_1, .ref q_3, .null, .null, .int 0, .int 0])), (q_1, .inl (k_2, 9, .inl (fun _ => 0))), (q_3, .inl (k_4, 9, .inl (fun _ => 0))), (q_5, .inl (k_6, 9, .inl (fun _ => 0)))] := hD
  have hK : va_K (dC, dI) vwCl [(k_2, .int), (k_4, .int), (k_6, .int)] s := hK
  refine W.widen (k := 3) (n := 27) (Nat.le_of_ble_eq_true rfl) (Nat.le_of_ble_eq_true rfl) ?_
  refine va_putF (D := (dC, dI)) (ci := 9) (v := .ref q_5) (ty := (.array .int)) (C := RX8) (T := TX8) (N := 6) hx hb hws inlX8 tyX8 tyX8_ok nmX8 hown hK hP hD hS 0 rfl rfl 2 (by decide) (hws _ m_7_4) (fun _ h9 => h9) rfl hin rfl (by decide +kernel) rfl rfl (Nat.le_of_ble_eq_true rfl) dX8_init_25 (fun H locs hP hD hS => ?_)
  have hP : va_P (dC, dI) vwCl [(h0, .inr (9, [.ref q_1, .ref q_3, .ref q_5, .null, .int 0, .int 0])), (q_1, .inl (k_2, 9, .inl (fun _ => 0))), (q_3, .inl (k_4, 9, .inl (fun _ => 0))), (q_5, .inl (k_6, 9, .inl (fun _ => 0)))] H := hP
  have hD : va_D A [(h0, .inr (9, [.ref q_1, .ref q_3, .ref q_5, .null, .int 0, .int 0])), (q_1, .inl (k_2, 9, .inl (fun _ => 0))), (q_3, .inl (k_4, 9, .inl (fun _ => 0))), (q_5, .inl (k_6, 9, .inl (fun _ => 0)))] := hD
  refine lv_aload_n hx hb dX8_init_28 rfl (lv_at hl 0 rfl) ?_
  refine lv_iconst (v := 0) hx hb dX8_init_29 (by decide) ?_
  refine va_newa (atype := .int) (ty := .int) (N' := 0) (a0 := (0, .inl (fun _ => 0))) hx hb (hws _ m_3_14) rfl hK hP hD hS hA (fun _ => rfl) (by decide) (by decide) (by decide) (Nat.le_of_ble_eq_true rfl) (Nat.le_of_ble_eq_true rfl) dX8_init_30 (fun q_7 k_8 H hK hP hD hS => ?_)
  have hP : va_P (dC, dI) vwCl [(h0, .inr (9, [.ref q_1, .ref q_3, .ref q_5, .null, .int 0, .int 0])), (q_1, .inl (k_2, 9, .inl (fun _ => 0))), (q_3, .inl (k_4, 9, .inl (fun _ => 0))), (q_5, .inl (k_6, 9, .inl (fun _ => 0))), (q_7, .inl (k_8, 0, .inl (fun _ => 0)))] H := hP
  have hD : va_D A [(h0, .inr (9, [.ref q_1, .ref q_3, .ref q_5, .null, .int 0, .int 0])), (q_1, .inl (k_2, 9, .inl (fun _ => 0))), (q_3, .inl (k_4, 9, .inl (fun _ => 0))), (q_5, .inl (k_6, 9, .inl (fun _ => 0))), (q_7, .inl (k_8, 0, .inl (fun _ => 0)))] := hD
  have hK : va_K (dC, dI) vwCl [(k_2, .int), (k_4, .int), (k_6, .int), (k_8, .int)] s := hK
  refine W.widen (k := 4) (n := 27) (Nat.le_of_ble_eq_true rfl) (Nat.le_of_ble_eq_true rfl) ?_
  refine va_put (D := (dC, dI)) (ci := 9) (v := .ref q_7) (ty := (.array .int)) (C := RX8) (T := TX8) (N := 6) hx hb hws inlX8 tyX8 tyX8_ok nmX8 hown hK hP hD hS 0 rfl rfl 3 (by decide) (hws _ m_7_5) (fun _ h9 => h9) rfl (by decide +kernel) rfl rfl (Nat.le_of_ble_eq_true rfl) dX8_init_32 (fun H locs hP hD hS => ?_)
  have hP : va_P (dC, dI) vwCl [(h0, .inr (9, [.ref q_1, .ref q_3, .ref q_5, .ref q_7, .int 0, .int 0])), (q_1, .inl (k_2, 9, .inl (fun _ => 0))), (q_3, .inl (k_4, 9, .inl (fun _ => 0))), (q_5, .inl (k_6, 9, .inl (fun _ => 0))), (q_7, .inl (k_8, 0, .inl (fun _ => 0)))] H := hP
  have hD : va_D A [(h0, .inr (9, [.ref q_1, .ref q_3, .ref q_5, .ref q_7, .int 0, .int 0])), (q_1, .inl (k_2, 9, .inl (fun _ => 0))), (q_3, .inl (k_4, 9, .inl (fun _ => 0))), (q_5, .inl (k_6, 9, .inl (fun _ => 0))), (q_7, .inl (k_8, 0, .inl (fun _ => 0)))] := hD
  refine lv_aload_n hx hb dX8_init_35 rfl (lv_at hl 0 rfl) ?_
  refine lv_iconst (v := 0) hx hb dX8_init_36 (by decide) ?_
  refine va_put (D := (dC, dI)) (ci := 9) (v := .int 0) (ty := .int) (C := RX8) (T := TX8) (N := 6) hx hb hws inlX8 tyX8 tyX8_ok nmX8 hown hK hP hD hS 0 rfl rfl 4 (by decide) (hws _ m_7_6) (fun _ h9 => h9) rfl (by decide +kernel) rfl rfl (Nat.le_of_ble_eq_true rfl) dX8_init_37 (fun H locs hP hD hS => ?_)
  have hP : va_P (dC, dI) vwCl [(h0, .inr (9, [.ref q_1, .ref q_3, .ref q_5, .ref q_7, .int 0, .int 0])), (q_1, .inl (k_2, 9, .inl (fun _ => 0))), (q_3, .inl (k_4, 9, .inl (fun _ => 0))), (q_5, .inl (k_6, 9, .inl (fun _ => 0))), (q_7, .inl (k_8, 0, .inl (fun _ => 0)))] H := hP
  have hD : va_D A [(h0, .inr (9, [.ref q_1, .ref q_3, .ref q_5, .ref q_7, .int 0, .int 0])), (q_1, .inl (k_2, 9, .inl (fun _ => 0))), (q_3, .inl (k_4, 9, .inl (fun _ => 0))), (q_5, .inl (k_6, 9, .inl (fun _ => 0))), (q_7, .inl (k_8, 0, .inl (fun _ => 0)))] := hD
  refine lv_aload_n hx hb dX8_init_40 rfl (lv_at hl 0 rfl) ?_
  refine lv_iconst (v := 0) hx hb dX8_init_41 (by decide) ?_
  refine va_put (D := (dC, dI)) (ci := 9) (v := .int 0) (ty := .int) (C := RX8) (T := TX8) (N := 6) hx hb hws inlX8 tyX8 tyX8_ok nmX8 hown hK hP hD hS 0 rfl rfl 5 (by decide) (hws _ m_7_7) (fun _ h9 => h9) rfl (by decide +kernel) rfl rfl (Nat.le_of_ble_eq_true rfl) dX8_init_42 (fun H locs hP hD hS => ?_)
  have hP : va_P (dC, dI) vwCl [(h0, .inr (9, [.ref q_1, .ref q_3, .ref q_5, .ref q_7, .int 0, .int 0])), (q_1, .inl (k_2, 9, .inl (fun _ => 0))), (q_3, .inl (k_4, 9, .inl (fun _ => 0))), (q_5, .inl (k_6, 9, .inl (fun _ => 0))), (q_7, .inl (k_8, 0, .inl (fun _ => 0)))] H := hP
  have hD : va_D A [(h0, .inr (9, [.ref q_1, .ref q_3, .ref q_5, .ref q_7, .int 0, .int 0])), (q_1, .inl (k_2, 9, .inl (fun _ => 0))), (q_3, .inl (k_4, 9, .inl (fun _ => 0))), (q_5, .inl (k_6, 9, .inl (fun _ => 0))), (q_7, .inl (k_8, 0, .inl (fun _ => 0)))] := hD
  have hK9 := hK.sub (tys' := [(k_2, .int), (k_4, .int), (k_6, .int), (k_8, .int)]) [0, 1, 2, 3] rfl
  exact W.vret hx hb hr (fun t ht hW => ⟨⟨(), rfl, trivial, ⟨(fun k9 => ([q_1, q_3, q_5, q_7] : List (Nat)).getD k9 0), (fun k9 => ([k_2, k_4, k_6, k_8] : List ClassId).getD k9 default), (fun k9 => ([] : List (Nat → Int32)).getD k9 (fun _ => 0)), (fun k9 => ([] : List (Int32)).getD k9 0), (fun k9 => ([] : List (Nat → Nat)).getD k9 (fun _ => 0)), by rw [ht]; exact hP, va_K.moved hW.alike hK9, hD⟩⟩, hS.F ht⟩) hS.2.2 dX8_init_45

set_option maxHeartbeats 4000000 in
set_option maxRecDepth 100000 in
theorem c_X6_init_v1 (l : Launch) (dC : Nat → ClassId) (dI : Nat → Nat → Nat) (h0 : Nat) (sz : Nat) : Met l yX6_init (Cond.code yX6_init cX6_init 1 none :: wsL_law) ({ frames := 1, cells := 8, slots := 536, locals := 12 }) (va_Pc [.ref h0] (fun U => U.heap.size = sz ∧ va_P (dC, dI) vwCl [(h0, .inr (7, [.int 0, .null, .null, .null, .null, .null, .null, .null, .null, .int 0]))] U.heap ∧ va_K (dC, dI) vwCl [] U ∧ va_D (fun _ => True) [(h0, .inr (7, [.int 0, .null, .null, .null, .null, .null, .null, .null, .null, .int 0]))])) (va_Qv (fun (_ : Unit) => True) (fun (_ : Unit) (t : State) => ∃ (qa : Nat → Nat) (qc : Nat → ClassId) (qg : Nat → Nat → Int32) (qz : Nat → Int32) (qr : Nat → Nat → Nat), va_P (dC, dI) vwCl [(h0, .inr (7, [.int 0, .ref (qa 0), .ref (qa 1), .ref (qa 2), .ref (qa 3), .ref (qa 4), .ref (qa 5), .ref (qa 6), .ref (qa 7), .int (-1)])), ((qa 0), .inl ((qc 0), 64, .inl (fun _ => 0))), ((qa 1), .inl ((qc 1), 64, .inl (fun _ => 0))), ((qa 2), .inl ((qc 2), 8, .inl (fun _ => 0))), ((qa 3), .inl ((qc 3), 8, .inl (fun _ => 0))), ((qa 4), .inl ((qc 4), 8, .inl (fun _ => 0))), ((qa 5), .inl ((qc 5), 256, .inl (fun _ => 0))), ((qa 6), .inl ((qc 6), 64, .inl (fun _ => 0))), ((qa 7), .inl ((qc 7), 64, .inr (.inl (fun _ => 0))))] t.heap ∧ va_K (dC, dI) vwCl [((qc 0), .int), ((qc 1), .int), ((qc 2), .int), ((qc 3), .int), ((qc 4), .int), ((qc 5), .int), ((qc 6), .boolean), ((qc 7), .long)] t ∧ va_D (va_A [(h0, .inr (7, [.int 0, .null, .null, .null, .null, .null, .null, .null, .null, .int 0]))] sz) [(h0, .inr (7, [.int 0, .ref (qa 0), .ref (qa 1), .ref (qa 2), .ref (qa 3), .ref (qa 4), .ref (qa 5), .ref (qa 6), .ref (qa 7), .int (-1)])), ((qa 0), .inl ((qc 0), 64, .inl (fun _ => 0))), ((qa 1), .inl ((qc 1), 64, .inl (fun _ => 0))), ((qa 2), .inl ((qc 2), 8, .inl (fun _ => 0))), ((qa 3), .inl ((qc 3), 8, .inl (fun _ => 0))), ((qa 4), .inl ((qc 4), 8, .inl (fun _ => 0))), ((qa 5), .inl ((qc 5), 256, .inl (fun _ => 0))), ((qa 6), .inl ((qc 6), 64, .inl (fun _ => 0))), ((qa 7), .inl ((qc 7), 64, .inr (.inl (fun _ => 0))))]) (va_A [(h0, .inr (7, [.int 0, .null, .null, .null, .null, .null, .null, .null, .null, .int 0]))] sz)) 8 536 (va_A [(h0, .inr (7, [.int 0, .null, .null, .null, .null, .null, .null, .null, .null, .int 0]))] sz) := by
  refine Met.ofW (cc := cX6_init) (maxL := 1) (ret := none) (by decide) rfl ?_
  intro p e s m args below meth c s₁ B hml hv
  obtain ⟨rfl, hsz, hP, hK, hD0⟩ := hv
  have hx := B.exec
  have hb := B.bytes
  have hr := B.returns
  have hts := atoms_spec (ws := Cond.code yX6_init cX6_init 1 none :: wsL_law) B.pre
  have hws : ∀ w ∈ wsL_law, w.before _ s = true := fun w h => hts w (List.mem_cons_of_mem _ h)
  have hown : s.vm.findClass RX6 = some m.cls := findClass_of_methodNamed B.named
  have hlocks := B.notSynchronized
  have hin : meth.name = "<init>" := (name_of_methodNamed B.named B.method).1
  subst hsz
  have hD := hD0.self (sz := s.heap.size)
  generalize hAe : va_A [(h0, .inr (7, [.int 0, .null, .null, .null, .null, .null, .null, .null, .null, .int 0]))] s.heap.size = A at hD ⊢
  have hA : ∀ q : Nat, s.heap.size ≤ q → A q := fun q h => by rw [← hAe]; exact Or.inr h
  have hS : va_S A s.heap s.heap [] := va_S.rf
  have hP : va_P (dC, dI) vwCl [(h0, .inr (7, [.int 0, .null, .null, .null, .null, .null, .null, .null, .null, .int 0]))] s.heap := hP
  have hl := lv_entry ([.ref h0]) (n := 1) (Nat.le_of_ble_eq_true rfl)
  rw [lg_entry_eq]
  generalize (lg_sl ([.ref h0]) ++ List.replicate (1 - (lg_sl ([.ref h0])).length) Slot.unset).toArray = ls at hl ⊢
  have hl : lv_has ls 1 [(0, .ref h0)] := hl
  refine lv_aload_n hx hb dX6_init_0 rfl (lv_at hl 0 rfl) ?_
  refine W.objInit hx hb hown (hws _ m_7_10) (hws _ m_1_11) (hws _ m_1_12) rfl (by rw [hml]; exact hl.1) rfl dX6_init_1 (Nat.le_of_ble_eq_true rfl) (Nat.le_of_ble_eq_true rfl) ?_
  refine W.eq (g2 := F0 m 4 ls []) rfl ?_
  refine lv_aload_n hx hb dX6_init_4 rfl (lv_at hl 0 rfl) ?_
  refine lv_iconst (v := 0) hx hb dX6_init_5 (by decide) ?_
  refine va_put (D := (dC, dI)) (ci := 7) (v := .int 0) (ty := .int) (C := RX6) (T := TX6) (N := 10) hx hb hws inlX6 tyX6 tyX6_ok nmX6 hown hK hP hD hS 0 rfl rfl 0 (by decide) (hws _ m_7_11) (fun _ h9 => h9) rfl (by decide +kernel) rfl rfl (Nat.le_of_ble_eq_true rfl) dX6_init_6 (fun H locs hP hD hS => ?_)
  have hP : va_P (dC, dI) vwCl [(h0, .inr (7, [.int 0, .null, .null, .null, .null, .null, .null, .null, .null, .int 0]))] H := hP
  have hD : va_D A [(h0, .inr (7, [.int 0, .null, .null, .null, .null, .null, .null, .null, .null, .int 0]))] := hD
  refine lv_aload_n hx hb dX6_init_9 rfl (lv_at hl 0 rfl) ?_
  refine lv_bipush (v := 64) hx hb dX6_init_10 (by decide) ?_
  refine va_newa (atype := .int) (ty := .int) (N' := 64) (a0 := (64, .inl (fun _ => 0))) hx hb (hws _ m_3_14) rfl hK hP hD hS hA (fun _ => rfl) (by decide) (by decide) (by decide) (Nat.le_of_ble_eq_true rfl) (Nat.le_of_ble_eq_true rfl) dX6_init_12 (fun q_1 k_2 H hK hP hD hS => ?_)
  have hP : va_P (dC, dI) vwCl [(h0, .inr (7, [.int 0, .null, .null, .null, .null, .null, .null, .null, .null, .int 0])), (q_1, .inl (k_2, 64, .inl (fun _ => 0)))] H := hP
  have hD : va_D A [(h0, .inr (7, [.int 0, .null, .null, .null, .null, .null, .null, .null, .null, .int 0])), (q_1, .inl (k_2, 64, .inl (fun _ => 0)))] := hD
  have hK : va_K (dC, dI) vwCl [(k_2, .int)] s := hK
  refine W.widen (k := 1) (n := 64) (Nat.le_of_ble_eq_true rfl) (Nat.le_of_ble_eq_true rfl) ?_
  refine va_putF (D := (dC, dI)) (ci := 7) (v := .ref q_1) (ty := (.array .int)) (C := RX6) (T := TX6) (N := 10) hx hb hws inlX6 tyX6 tyX6_ok nmX6 hown hK hP hD hS 0 rfl rfl 1 (by decide) (hws _ m_7_12) (fun _ h9 => h9) rfl hin rfl (by decide +kernel) rfl rfl (Nat.le_of_ble_eq_true rfl) dX6_init_14 (fun H locs hP hD hS => ?_)
  have hP : va_P (dC, dI) vwCl [(h0, .inr (7, [.int 0, .ref q_1, .null, .null, .null, .null, .null, .null, .null, .int 0])), (q_1, .inl (k_2, 64, .inl (fun _ => 0)))] H := hP
  have hD : va_D A [(h0, .inr (7, [.int 0, .ref q_1, .null, .null, .null, .null, .null, .null, .null, .int 0])), (q_1, .inl (k_2, 64, .inl (fun _ => 0)))] := hD
  refine lv_aload_n hx hb dX6_init_17 rfl (lv_at hl 0 rfl) ?_
  refine lv_bipush (v := 64) hx hb dX6_init_18 (by decide) ?_
  refine va_newa (atype := .int) (ty := .int) (N' := 64) (a0 := (64, .inl (fun _ => 0))) hx hb (hws _ m_3_14) rfl hK hP hD hS hA (fun _ => rfl) (by decide) (by decide) (by decide) (Nat.le_of_ble_eq_true rfl) (Nat.le_of_ble_eq_true rfl) dX6_init_20 (fun q_3 k_4 H hK hP hD hS => ?_)
  have hP : va_P (dC, dI) vwCl [(h0, .inr (7, [.int 0, .ref q_1, .null, .null, .null, .null, .null, .null, .null, .int 0])), (q_1, .inl (k_2, 64, .inl (fun _ => 0))), (q_3, .inl (k_4, 64, .inl (fun _ => 0)))] H := hP
  have hD : va_D A [(h0, .inr (7, [.int 0, .ref q_1, .null, .null, .null, .null, .null, .null, .null, .int 0])), (q_1, .inl (k_2, 64, .inl (fun _ => 0))), (q_3, .inl (k_4, 64, .inl (fun _ => 0)))] := hD
  have hK : va_K (dC, dI) vwCl [(k_2, .int), (k_4, .int)] s := hK
  refine W.widen (k := 2) (n := 128) (Nat.le_of_ble_eq_true rfl) (Nat.le_of_ble_eq_true rfl) ?_
  refine va_putF (D := (dC, dI)) (ci := 7) (v := .ref q_3) (ty := (.array .int)) (C := RX6) (T := TX6) (N := 10) hx hb hws inlX6 tyX6 tyX6_ok nmX6 hown hK hP hD hS 0 rfl rfl 2 (by decide) (hws _ m_7_13) (fun _ h9 => h9) rfl hin rfl (by decide +kernel) rfl rfl (Nat.le_of_ble_eq_true rfl) dX6_init_22 (fun H locs hP hD hS => ?_)
  have hP : va_P (dC, dI) vwCl [(h0, .inr (7, [.int 0, .ref q_1, .ref q_3, .null, .null, .null, .null, .null, .null, .int 0])), (q_1, .inl (k_2, 64, .inl (fun _ => 0))), (q_3, .inl (k_4, 64, .inl (fun _ => 0)))] H := hP
  have hD : va_D A [(h0, .inr (7, [.int 0, .ref q_1, .ref q_3, .null, .null, .null, .null, .null, .null, .int 0])), (q_1, .inl (k_2, 64, .inl (fun _ => 0))), (q_3, .inl (k_4, 64, .inl (fun _ => 0)))] := hD
  refine lv_aload_n hx hb dX6_init_25 rfl (lv_at hl 0 rfl) ?_
  refine lv_bipush (v := 8) hx hb dX6_init_26 (by decide) ?_
  refine va_newa (atype := .int) (ty := .int) (N' := 8) (a0 := (8, .inl (fun _ => 0))) hx hb (hws _ m_3_14) rfl hK hP hD hS hA (fun _ => rfl) (by decide) (by decide) (by decide) (Nat.le_of_ble_eq_true rfl) (Nat.le_of_ble_eq_true rfl) dX6_init_28 (fun q_5 k_6 H hK hP hD hS => ?_)
  have hP : va_P (dC, dI) vwCl [(h0, .inr (7, [.int 0, .ref q_1, .ref q_3, .null, .null, .null, .null, .null, .null, .int 0])), (q_1, .inl (k_2, 64, .inl (fun _ => 0))), (q_3, .inl (k_4, 64, .inl (fun _ => 0))), (q_5, .inl (k_6, 8, .inl (fun _ => 0)))] H := hP
  have hD : va_D A [(h0, .inr (7, [.int 0, .ref q_1, .ref q_3, .null, .null, .null, .null, .null, .null, .int 0])), (q_1, .inl (k_2, 64, .inl (fun _ => 0))), (q_3, .inl (k_4, 64, .inl (fun _ => 0))), (q_5, .inl (k_6, 8, .inl (fun _ => 0)))] := hD
  have hK : va_K (dC, dI) vwCl [(k_2, .int), (k_4, .int), (k_6, .int)] s := hK
  refine W.widen (k := 3) (n := 136) (Nat.le_of_ble_eq_true rfl) (Nat.le_of_ble_eq_true rfl) ?_
  refine va_putF (D := (dC, dI)) (ci := 7) (v := .ref q_5) (ty := (.array .int)) (C := RX6) (T := TX6) (N := 10) hx hb hws inlX6 tyX6 tyX6_ok nmX6 hown hK hP hD hS 0 rfl rfl 3 (by decide) (hws _ m_7_14) (fun _ h9 => h9) rfl hin rfl (by decide +kernel) rfl rfl (Nat.le_of_ble_eq_true rfl) dX6_init_30 (fun H locs hP hD hS => ?_)
  have hP : va_P (dC, dI) vwCl [(h0, .inr (7, [.int 0, .ref q_1, .ref q_3, .ref q_5, .null, .null, .null, .null, .null, .int 0])), (q_1, .inl (k_2, 64, .inl (fun _ => 0))), (q_3, .inl (k_4, 64, .inl (fun _ => 0))), (q_5, .inl (k_6, 8, .inl (fun _ => 0)))] H := hP
  have hD : va_D A [(h0, .inr (7, [.int 0, .ref q_1, .ref q_3, .ref q_5, .null, .null, .null, .null, .null, .int 0])), (q_1, .inl (k_2, 64, .inl (fun _ => 0))), (q_3, .inl (k_4, 64, .inl (fun _ => 0))), (q_5, .inl (k_6, 8, .inl (fun _ => 0)))] := hD
  refine lv_aload_n hx hb dX6_init_33 rfl (lv_at hl 0 rfl) ?_
  refine lv_bipush (v := 8) hx hb dX6_init_34 (by decide) ?_
  refine va_newa (atype := .int) (ty := .int) (N' := 8) (a0 := (8, .inl (fun _ => 0))) hx hb (hws _ m_3_14) rfl hK hP hD hS hA (fun _ => rfl) (by decide) (by decide) (by decide) (Nat.le_of_ble_eq_true rfl) (Nat.le_of_ble_eq_true rfl) dX6_init_36 (fun q_7 k_8 H hK hP hD hS => ?_)
  have hP : va_P (dC, dI) vwCl [(h0, .inr (7, [.int 0, .ref q_1, .ref q_3, .ref q_5, .null, .null, .null, .null, .null, .int 0])), (q_1, .inl (k_2, 64, .inl (fun _ => 0))), (q_3, .inl (k_4, 64, .inl (fun _ => 0))), (q_5, .inl (k_6, 8, .inl (fun _ => 0))), (q_7, .inl (k_8, 8, .inl (fun _ => 0)))] H := hP
  have hD : va_D A [(h0, .inr (7, [.int 0, .ref q_1, .ref q_3, .ref q_5, .null, .null, .null, .null, .null, .int 0])), (q_1, .inl (k_2, 64, .inl (fun _ => 0))), (q_3, .inl (k_4, 64, .inl (fun _ => 0))), (q_5, .inl (k_6, 8, .inl (fun _ => 0))), (q_7, .inl (k_8, 8, .inl (fun _ => 0)))] := hD
  have hK : va_K (dC, dI) vwCl [(k_2, .int), (k_4, .int), (k_6, .int), (k_8, .int)] s := hK
  refine W.widen (k := 4) (n := 144) (Nat.le_of_ble_eq_true rfl) (Nat.le_of_ble_eq_true rfl) ?_
  refine va_putF (D := (dC, dI)) (ci := 7) (v := .ref q_7) (ty := (.array .int)) (C := RX6) (T := TX6) (N := 10) hx hb hws inlX6 tyX6 tyX6_ok nmX6 hown hK hP hD hS 0 rfl rfl 4 (by decide) (hws _ m_7_15) (fun _ h9 => h9) rfl hin rfl (by decide +kernel) rfl rfl (Nat.le_of_ble_eq_true rfl) dX6_init_38 (fun H locs hP hD hS => ?_)
  have hP : va_P (dC, dI) vwCl [(h0, .inr (7, [.int 0, .ref q_1, .ref q_3, .ref q_5, .ref q_7, .null, .null, .null, .null, .int 0])), (q_1, .inl (k_2, 64, .inl (fun _ => 0))), (q_3, .inl (k_4, 64, .inl (fun _ => 0))), (q_5, .inl (k_6, 8, .inl (fun _ => 0))), (q_7, .inl (k_8, 8, .inl (fun _ => 0)))] H := hP
  have hD : va_D A [(h0, .inr (7, [.int 0, .ref q_1, .ref q_3, .ref q_5, .ref q_7, .null, .null, .null, .null, .int 0])), (q_1, .inl (k_2, 64, .inl (fun _ => 0))), (q_3, .inl (k_4, 64, .inl (fun _ => 0))), (q_5, .inl (k_6, 8, .inl (fun _ => 0))), (q_7, .inl (k_8, 8, .inl (fun _ => 0)))] := hD
  refine lv_aload_n hx hb dX6_init_41 rfl (lv_at hl 0 rfl) ?_
  refine lv_bipush (v := 8) hx hb dX6_init_42 (by decide) ?_
  refine va_newa (atype := .int) (ty := .int) (N' := 8) (a0 := (8, .inl (fun _ => 0))) hx hb (hws _ m_3_14) rfl hK hP hD hS hA (fun _ => rfl) (by decide) (by decide) (by decide) (Nat.le_of_ble_eq_true rfl) (Nat.le_of_ble_eq_true rfl) dX6_init_44 (fun q_9 k_10 H hK hP hD hS => ?_)
  have hP : va_P (dC, dI) vwCl [(h0, .inr (7, [.int 0, .ref q_1, .ref q_3, .ref q_5, .ref q_7, .null, .null, .null, .null, .int 0])), (q_1, .inl (k_2, 64, .inl (fun _ => 0))), (q_3, .inl (k_4, 64, .inl (fun _ => 0))), (q_5, .inl (k_6, 8, .inl (fun _ => 0))), (q_7, .inl (k_8, 8, .inl (fun _ => 0))), (q_9, .inl (k_10, 8, .inl (fun _ => 0)))] H := hP
  have hD : va_D A [(h0, .inr (7, [.int 0, .ref q_1, .ref q_3, .ref q_5, .ref q_7, .null, .null, .null, .null, .int 0])), (q_1, .inl (k_2, 64, .inl (fun _ => 0))), (q_3, .inl (k_4, 64, .inl (fun _ => 0))), (q_5, .inl (k_6, 8, .inl (fun _ => 0))), (q_7, .inl (k_8, 8, .inl (fun _ => 0))), (q_9, .inl (k_10, 8, .inl (fun _ => 0)))] := hD
  have hK : va_K (dC, dI) vwCl [(k_2, .int), (k_4, .int), (k_6, .int), (k_8, .int), (k_10, .int)] s := hK
  refine W.widen (k := 5) (n := 152) (Nat.le_of_ble_eq_true rfl) (Nat.le_of_ble_eq_true rfl) ?_
  refine va_putF (D := (dC, dI)) (ci := 7) (v := .ref q_9) (ty := (.array .int)) (C := RX6) (T := TX6) (N := 10) hx hb hws inlX6 tyX6 tyX6_ok nmX6 hown hK hP hD hS 0 rfl rfl 5 (by decide) (hws _ m_7_16) (fun _ h9 => h9) rfl hin rfl (by decide +kernel) rfl rfl (Nat.le_of_ble_eq_true rfl) dX6_init_46 (fun H locs hP hD hS => ?_)
  have hP : va_P (dC, dI) vwCl [(h0, .inr (7, [.int 0, .ref q_1, .ref q_3, .ref q_5, .ref q_7, .ref q_9, .null, .null, .null, .int 0])), (q_1, .inl (k_2, 64, .inl (fun _ => 0))), (q_3, .inl (k_4, 64, .inl (fun _ => 0))), (q_5, .inl (k_6, 8, .inl (fun _ => 0))), (q_7, .inl (k_8, 8, .inl (fun _ => 0))), (q_9, .inl (k_10, 8, .inl (fun _ => 0)))] H := hP
  have hD : va_D A [(h0, .inr (7, [.int 0, .ref q_1, .ref q_3, .ref q_5, .ref q_7, .ref q_9, .null, .null, .null, .int 0])), (q_1, .inl (k_2, 64, .inl (fun _ => 0))), (q_3, .inl (k_4, 64, .inl (fun _ => 0))), (q_5, .inl (k_6, 8, .inl (fun _ => 0))), (q_7, .inl (k_8, 8, .inl (fun _ => 0))), (q_9, .inl (k_10, 8, .inl (fun _ => 0)))] := hD
  refine lv_aload_n hx hb dX6_init_49 rfl (lv_at hl 0 rfl) ?_
  refine lv_sipush (v := 256) hx hb dX6_init_50 (by decide) ?_
  refine va_newa (atype := .int) (ty := .int) (N' := 256) (a0 := (256, .inl (fun _ => 0))) hx hb (hws _ m_3_14) rfl hK hP hD hS hA (fun _ => rfl) (by decide) (by decide) (by decide) (Nat.le_of_ble_eq_true rfl) (Nat.le_of_ble_eq_true rfl) dX6_init_53 (fun q_11 k_12 H hK hP hD hS => ?_)
  have hP : va_P (dC, dI) vwCl [(h0, .inr (7, [.int 0, .ref q_1, .ref q_3, .ref q_5, .ref q_7, .ref q_9, .null, .null, .null, .int 0])), (q_1, .inl (k_2, 64, .inl (fun _ => 0))), (q_3, .inl (k_4, 64, .inl (fun _ => 0))), (q_5, .inl (k_6, 8, .inl (fun _ => 0))), (q_7, .inl (k_8, 8, .inl (fun _ => 0))), (q_9, .inl (k_10, 8, .inl (fun _ => 0))), (q_11, .inl (k_12, 256, .inl (fun _ => 0)))] H := hP
  have hD : va_D A [(h0, .inr (7, [.int 0, .ref q_1, .ref q_3, .ref q_5, .ref q_7, .ref q_9, .null, .null, .null, .int 0])), (q_1, .inl (k_2, 64, .inl (fun _ => 0))), (q_3, .inl (k_4, 64, .inl (fun _ => 0))), (q_5, .inl (k_6, 8, .inl (fun _ => 0))), (q_7, .inl (k_8, 8, .inl (fun _ => 0))), (q_9, .inl (k_10, 8, .inl (fun _ => 0))), (q_11, .inl (k_12, 256, .inl (fun _ => 0)))] := hD
  have hK : va_K (dC, dI) vwCl [(k_2, .int), (k_4, .int), (k_6, .int), (k_8, .int), (k_10, .int), (k_12, .int)] s := hK
  refine W.widen (k := 6) (n := 408) (Nat.le_of_ble_eq_true rfl) (Nat.le_of_ble_eq_true rfl) ?_
  refine va_putF (D := (dC, dI)) (ci := 7) (v := .ref q_11) (ty := (.array .int)) (C := RX6) (T := TX6) (N := 10) hx hb hws inlX6 tyX6 tyX6_ok nmX6 hown hK hP hD hS 0 rfl rfl 6 (by decide) (hws _ m_7_17) (fun _ h9 => h9) rfl hin rfl (by decide +kernel) rfl rfl (Nat.le_of_ble_eq_true rfl) dX6_init_55 (fun H locs hP hD hS => ?_)
  have hP : va_P (dC, dI) vwCl [(h0, .inr (7, [.int 0, .ref q_1, .ref q_3, .ref q_5, .ref q_7, .ref q_9, .ref q_11, .null, .null, .int 0])), (q_1, .inl (k_2, 64, .inl (fun _ => 0))), (q_3, .inl (k_4, 64, .inl (fun _ => 0))), (q_5, .inl (k_6, 8, .inl (fun _ => 0))), (q_7, .inl (k_8, 8, .inl (fun _ => 0))), (q_9, .inl (k_10, 8, .inl (fun _ => 0))), (q_11, .inl (k_12, 256, .inl (fun _ => 0)))] H := hP
  have hD : va_D A [(h0, .inr (7, [.int 0, .ref q_1, .ref q_3, .ref q_5, .ref q_7, .ref q_9, .ref q_11, .null, .null, .int 0])), (q_1, .inl (k_2, 64, .inl (fun _ => 0))), (q_3, .inl (k_4, 64, .inl (fun _ => 0))), (q_5, .inl (k_6, 8, .inl (fun _ => 0))), (q_7, .inl (k_8, 8, .inl (fun _ => 0))), (q_9, .inl (k_10, 8, .inl (fun _ => 0))), (q_11, .inl (k_12, 256, .inl (fun _ => 0)))] := hD
  refine lv_aload_n hx hb dX6_init_58 rfl (lv_at hl 0 rfl) ?_
  refine lv_bipush (v := 64) hx hb dX6_init_59 (by decide) ?_
  refine va_newa (atype := .boolean) (ty := .boolean) (N' := 64) (a0 := (64, .inl (fun _ => 0))) hx hb (hws _ m_7_18) rfl hK hP hD hS hA (fun _ => rfl) (by decide) (by decide) (by decide) (Nat.le_of_ble_eq_true rfl) (Nat.le_of_ble_eq_true rfl) dX6_init_61 (fun q_13 k_14 H hK hP hD hS => ?_)
  have hP : va_P (dC, dI) vwCl [(h0, .inr (7, [.int 0, .ref q_1, .ref q_3, .ref q_5, .ref q_7, .ref q_9, .ref q_11, .null, .null, .int 0])), (q_1, .inl (k_2, 64, .inl (fun _ => 0))), (q_3, .inl (k_4, 64, .inl (fun _ => 0))), (q_5, .inl (k_6, 8, .inl (fun _ => 0))), (q_7, .inl (k_8, 8, .inl (fun _ => 0))), (q_9, .inl (k_10, 8, .inl (fun _ => 0))), (q_11, .inl (k_12, 256, .inl (fun _ => 0))), (q_13, .inl (k_14, 64, .inl (fun _ => 0)))] H := hP
  have hD : va_D A [(h0, .inr (7, [.int 0, .ref q_1, .ref q_3, .ref q_5, .ref q_7, .ref q_9, .ref q_11, .null, .null, .int 0])), (q_1, .inl (k_2, 64, .inl (fun _ => 0))), (q_3, .inl (k_4, 64, .inl (fun _ => 0))), (q_5, .inl (k_6, 8, .inl (fun _ => 0))), (q_7, .inl (k_8, 8, .inl (fun _ => 0))), (q_9, .inl (k_10, 8, .inl (fun _ => 0))), (q_11, .inl (k_12, 256, .inl (fun _ => 0))), (q_13, .inl (k_14, 64, .inl (fun _ => 0)))] := hD
  have hK : va_K (dC, dI) vwCl [(k_2, .int), (k_4, .int), (k_6, .int), (k_8, .int), (k_10, .int), (k_12, .int), (k_14, .boolean)] s := hK
  refine W.widen (k := 7) (n := 472) (Nat.le_of_ble_eq_true rfl) (Nat.le_of_ble_eq_true rfl) ?_
  refine va_putF (D := (dC, dI)) (ci := 7) (v := .ref q_13) (ty := (.array .boolean)) (C := RX6) (T := TX6) (N := 10) hx hb hws inlX6 tyX6 tyX6_ok nmX6 hown hK hP hD hS 0 rfl rfl 7 (by decide) (hws _ m_7_19) (fun _ h9 => h9) rfl hin rfl (by decide +kernel) rfl rfl (Nat.le_of_ble_eq_true rfl) dX6_init_63 (fun H locs hP hD hS => ?_)
  have hP : va_P (dC, dI) vwCl [(h0, .inr (7, [.int 0, .ref q_1, .ref q_3, .ref q_5, .ref q_7, .ref q_9, .ref q_11, .ref q_13, .null, .int 0])), (q_1, .inl (k_2, 64, .inl (fun _ => 0))), (q_3, .inl (k_4, 64, .inl (fun _ => 0))), (q_5, .inl (k_6, 8, .inl (fun _ => 0))), (q_7, .inl (k_8, 8, .inl (fun _ => 0))), (q_9, .inl (k_10, 8, .inl (fun _ => 0))), (q_11, .inl (k_12, 256, .inl (fun _ => 0))), (q_13, .inl (k_14, 64, .inl (fun _ => 0)))] H := hP
  have hD : va_D A [(h0, .inr (7, [.int 0, .ref q_1, .ref q_3, .ref q_5, .ref q_7, .ref q_9, .ref q_11, .ref q_13, .null, .int 0])), (q_1, .inl (k_2, 64, .inl (fun _ => 0))), (q_3, .inl (k_4, 64, .inl (fun _ => 0))), (q_5, .inl (k_6, 8, .inl (fun _ => 0))), (q_7, .inl (k_8, 8, .inl (fun _ => 0))), (q_9, .inl (k_10, 8, .inl (fun _ => 0))), (q_11, .inl (k_12, 256, .inl (fun _ => 0))), (q_13, .inl (k_14, 64, .inl (fun _ => 0)))] := hD
  refine lv_aload_n hx hb dX6_init_66 rfl (lv_at hl 0 rfl) ?_
  refine lv_bipush (v := 64) hx hb dX6_init_67 (by decide) ?_
  refine va_newa (atype := .long) (ty := .long) (N' := 64) (a0 := (64, .inr (.inl (fun _ => 0)))) hx hb (hws _ m_1_6) rfl hK hP hD hS hA (fun _ => rfl) (by decide) (by decide) (by decide) (Nat.le_of_ble_eq_true rfl) (Nat.le_of_ble_eq_true rfl) dX6_init_69 (fun q_15 k_16 H hK hP hD hS => ?_)
  have hP : va_P (dC, dI) vwCl [(h0, .inr (7, [.int 0, .ref q_1, .ref q_3, .ref q_5, .ref q_7, .ref q_9, .ref q_11, .ref q_13, .null, .int 0])), (q_1, .inl (k_2, 64, .inl (fun _ => 0))), (q_3, .inl (k_4, 64, .inl (fun _ => 0))), (q_5, .inl (k_6, 8, .inl (fun _ => 0))), (q_7, .inl (k_8, 8, .inl (fun _ => 0))), (q_9, .inl (k_10, 8, .inl (fun _ => 0))), (q_11, .inl (k_12, 256, .inl (fun _ => 0))), (q_13, .inl (k_14, 64, .inl (fun _ => 0))), (q_15, .inl (k_16, 64, .inr (.inl (fun _ => 0))))] H := hP
  have hD : va_D A [(h0, .inr (7, [.int 0, .ref q_1, .ref q_3, .ref q_5, .ref q_7, .ref q_9, .ref q_11, .ref q_13, .null, .int 0])), (q_1, .inl (k_2, 64, .inl (fun _ => 0))), (q_3, .inl (k_4, 64, .inl (fun _ => 0))), (q_5, .inl (k_6, 8, .inl (fun _ => 0))), (q_7, .inl (k_8, 8, .inl (fun _ => 0))), (q_9, .inl (k_10, 8, .inl (fun _ => 0))), (q_11, .inl (k_12, 256, .inl (fun _ => 0))), (q_13, .inl (k_14, 64, .inl (fun _ => 0))), (q_15, .inl (k_16, 64, .inr (.inl (fun _ => 0))))] := hD
  have hK : va_K (dC, dI) vwCl [(k_2, .int), (k_4, .int), (k_6, .int), (k_8, .int), (k_10, .int), (k_12, .int), (k_14, .boolean), (k_16, .long)] s := hK
  refine W.widen (k := 8) (n := 536) (Nat.le_of_ble_eq_true rfl) (Nat.le_of_ble_eq_true rfl) ?_
  refine va_putF (D := (dC, dI)) (ci := 7) (v := .ref q_15) (ty := (.array .long)) (C := RX6) (T := TX6) (N := 10) hx hb hws inlX6 tyX6 tyX6_ok nmX6 hown hK hP hD hS 0 rfl rfl 8 (by decide) (hws _ m_7_20) (fun _ h9 => h9) rfl hin rfl (by decide +kernel) rfl rfl (Nat.le_of_ble_eq_true rfl) dX6_init_71 (fun H locs hP hD hS => ?_)
  have hP : va_P (dC, dI) vwCl [(h0, .inr (7, [.int 0, .ref q_1, .ref q_3, .ref q_5, .ref q_7, .ref q_9, .ref q_11, .ref q_13, .ref q_15, .int 0])), (q_1, .inl (k_2, 64, .inl (fun _ => 0))), (q_3, .inl (k_4, 64, .inl (fun _ => 0))), (q_5, .inl (k_6, 8, .inl (fun _ => 0))), (q_7, .inl (k_8, 8, .inl (fun _ => 0))), (q_9, .inl (k_10, 8, .inl (fun _ => 0))), (q_11, .inl (k_12, 256, .inl (fun _ => 0))), (q_13, .inl (k_14, 64, .inl (fun _ => 0))), (q_15, .inl (k_16, 64, .inr (.inl (fun _ => 0))))] H := hP
  have hD : va_D A [(h0, .inr (7, [.int 0, .ref q_1, .ref q_3, .ref q_5, .ref q_7, .ref q_9, .ref q_11, .ref q_13, .ref q_15, .int 0])), (q_1, .inl (k_2, 64, .inl (fun _ => 0))), (q_3, .inl (k_4, 64, .inl (fun _ => 0))), (q_5, .inl (k_6, 8, .inl (fun _ => 0))), (q_7, .inl (k_8, 8, .inl (fun _ => 0))), (q_9, .inl (k_10, 8, .inl (fun _ => 0))), (q_11, .inl (k_12, 256, .inl (fun _ => 0))), (q_13, .inl (k_14, 64, .inl (fun _ => 0))), (q_15, .inl (k_16, 64, .inr (.inl (fun _ => 0))))] := hD
  refine lv_aload_n hx hb dX6_init_74 rfl (lv_at hl 0 rfl) ?_
  refine lv_iconst (v := (-1)) hx hb dX6_init_75 (by decide) ?_
  refine va_put (D := (dC, dI)) (ci := 7) (v := .int (-1)) (ty := .int) (C := RX6) (T := TX6) (N := 10) hx hb hws inlX6 tyX6 tyX6_ok nmX6 hown hK hP hD hS 0 rfl rfl 9 (by decide) (hws _ m_7_21) (fun _ h9 => h9) rfl (by decide +kernel) rfl rfl (Nat.le_of_ble_eq_true rfl) dX6_init_76 (fun H locs hP hD hS => ?_)
  have hP : va_P (dC, dI) vwCl [(h0, .inr (7, [.int 0, .ref q_1, .ref q_3, .ref q_5, .ref q_7, .ref q_9, .ref q_11, .ref q_13, .ref q_15, .int (-1)])), (q_1, .inl (k_2, 64, .inl (fun _ => 0))), (q_3, .inl (k_4, 64, .inl (fun _ => 0))), (q_5, .inl (k_6, 8, .inl (fun _ => 0))), (q_7, .inl (k_8, 8, .inl (fun _ => 0))), (q_9, .inl (k_10, 8, .inl (fun _ => 0))), (q_11, .inl (k_12, 256, .inl (fun _ => 0))), (q_13, .inl (k_14, 64, .inl (fun _ => 0))), (q_15, .inl (k_16, 64, .inr (.inl (fun _ => 0))))] H := hP
  have hD : va_D A [(h0, .inr (7, [.int 0, .ref q_1, .ref q_3, .ref q_5, .ref q_7, .ref q_9, .ref q_11, .ref q_13, .ref q_15, .int (-1)])), (q_1, .inl (k_2, 64, .inl (fun _ => 0))), (q_3, .inl (k_4, 64, .inl (fun _ => 0))), (q_5, .inl (k_6, 8, .inl (fun _ => 0))), (q_7, .inl (k_8, 8, .inl (fun _ => 0))), (q_9, .inl (k_10, 8, .inl (fun _ => 0))), (q_11, .inl (k_12, 256, .inl (fun _ => 0))), (q_13, .inl (k_14, 64, .inl (fun _ => 0))), (q_15, .inl (k_16, 64, .inr (.inl (fun _ => 0))))] := hD
  have hK9 := hK.sub (tys' := [(k_2, .int), (k_4, .int), (k_6, .int), (k_8, .int), (k_10, .int), (k_12, .int), (k_14, .boolean), (k_16, .long)]) [0, 1, 2, 3, 4, 5, 6, 7] rfl
  exact W.vret hx hb hr (fun t ht hW => ⟨⟨(), rfl, trivial, ⟨(fun k9 => ([q_1, q_3, q_5, q_7, q_9, q_11, q_13, q_15] : List (Nat)).getD k9 0), (fun k9 => ([k_2, k_4, k_6, k_8, k_10, k_12, k_14, k_16] : List ClassId).getD k9 default), (fun k9 => ([] : List (Nat → Int32)).getD k9 (fun _ => 0)), (fun k9 => ([] : List (Int32)).getD k9 0), (fun k9 => ([] : List (Nat → Nat)).getD k9 (fun _ => 0)), by rw [ht]; exact hP, va_K.moved hW.alike hK9, hD⟩⟩, hS.F ht⟩) hS.2.2 dX6_init_79
