set_option maxHeartbeats 4000000 in
set_option maxRecDepth 100000 in
theorem c_X9_put_v1 (l : Launch) (dC : Nat → ClassId) (dI : Nat → Nat → Nat) (h0 : Nat) (p0 : Int32) (h1 : Nat) (k0 : ClassId) (sz : Nat) : Met l yX9_put (Cond.code yX9_put cX9_put 3 none :: wsL_law) ({ frames := 0, cells := 0, slots := 0, locals := 0 }) (va_Pc [.ref h0, .int p0] (fun U => U.heap.size = sz ∧ va_P (dC, dI) vwCl [(h0, .inr (10, [.ref h1, .int 0])), (h1, .inl (k0, 420, .inl (fun _ => 0)))] U.heap ∧ va_K (dC, dI) vwCl [(k0, .int)] U ∧ va_D (fun _ => True) [(h0, .inr (10, [.ref h1, .int 0])), (h1, .inl (k0, 420, .inl (fun _ => 0)))])) (va_Qv (fun (_ : Unit) => True) (fun (_ : Unit) (t : State) => ∃ (qa : Nat → Nat) (qc : Nat → ClassId) (qg : Nat → Nat → Int32) (qz : Nat → Int32) (qr : Nat → Nat → Nat), va_P (dC, dI) vwCl [(h0, .inr (10, [.ref h1, .int 4])), (h1, .inl (k0, 420, .inl (qg 0)))] t.heap ∧ va_K (dC, dI) vwCl [(k0, .int)] t ∧ va_D (va_A [(h0, .inr (10, [.ref h1, .int 0])), (h1, .inl (k0, 420, .inl (fun _ => 0)))] sz) [(h0, .inr (10, [.ref h1, .int 4])), (h1, .inl (k0, 420, .inl (qg 0)))]) (va_A [(h0, .inr (10, [.ref h1, .int 0])), (h1, .inl (k0, 420, .inl (fun _ => 0)))] sz)) 0 0 (va_A [(h0, .inr (10, [.ref h1, .int 0])), (h1, .inl (k0, 420, .inl (fun _ => 0)))] sz) := by
  refine Met.ofW (cc := cX9_put) (maxL := 3) (ret := none) (by decide) rfl ?_
  intro p e s m args below meth c s₁ B hml hv
  obtain ⟨rfl, hsz, hP, hK, hD0⟩ := hv
  have hx := B.exec
  have hb := B.bytes
  have hr := B.returns
  have hts := atoms_spec (ws := Cond.code yX9_put cX9_put 3 none :: wsL_law) B.pre
  have hws : ∀ w ∈ wsL_law, w.before _ s = true := fun w h => hts w (List.mem_cons_of_mem _ h)
  have hown : s.vm.findClass RX9 = some m.cls := findClass_of_methodNamed B.named
  have hlocks := B.notSynchronized
  subst hsz
  have hD := hD0.self (sz := s.heap.size)
  generalize hAe : va_A [(h0, .inr (10, [.ref h1, .int 0])), (h1, .inl (k0, 420, .inl (fun _ => 0)))] s.heap.size = A at hD ⊢
  have hA : ∀ q : Nat, s.heap.size ≤ q → A q := fun q h => by rw [← hAe]; exact Or.inr h
  have hS : va_S A s.heap s.heap [] := va_S.rf
  have hP : va_P (dC, dI) vwCl [(h0, .inr (10, [.ref h1, .int 0])), (h1, .inl (k0, 420, .inl (fun _ => 0)))] s.heap := hP
  have hl := lv_entry ([.ref h0, .int p0]) (n := 3) (Nat.le_of_ble_eq_true rfl)
  rw [lg_entry_eq]
  generalize (lg_sl ([.ref h0, .int p0]) ++ List.replicate (3 - (lg_sl ([.ref h0, .int p0])).length) Slot.unset).toArray = ls at hl ⊢
  have hl : lv_has ls 3 [(0, .ref h0), (1, .int p0)] := hl
  refine lv_bipush (v := 24) hx hb dX9_put_0 (by decide) ?_
  refine lv_istore_n (lv' := [(2, .int 24), (0, .ref h0), (1, .int p0)]) hx hb dX9_put_2 rfl hl (by decide) rfl (fun ls hl => ?_)
  refine lv_iload_n hx hb dX9_put_3 rfl (lv_at hl 0 rfl) ?_
  refine lv_if_lt (tgt := 51) hx hb dX9_put_4 (by decide) (fun c_1 => absurd c_1 (by decide)) (fun _ => ?_)
  refine lv_aload_n hx hb dX9_put_7 rfl (lv_at hl 1 rfl) ?_
  refine va_get (D := (dC, dI)) (ci := 10) (v := .int 0) (C := RX9) (T := TX9) (N := 2) hx hb hws inlX9 hown hK hP 0 rfl rfl 1 (by decide) (hws _ m_3_16) (fun _ h9 => h9) rfl dX9_put_8 ?_
  refine lv_aload_n hx hb dX9_put_11 rfl (lv_at hl 1 rfl) ?_
  refine va_get (D := (dC, dI)) (ci := 10) (v := .ref h1) (C := RX9) (T := TX9) (N := 2) hx hb hws inlX9 hown hK hP 0 rfl rfl 0 (by decide) (hws _ m_3_15) (fun _ h9 => h9) rfl dX9_put_12 ?_
  refine va_alen hx hb hK hP 1 0 rfl rfl (v := 420) rfl dX9_put_15 ?_
  refine lv_icmp_ge (tgt := 51) hx hb dX9_put_16 (by decide) (fun c_2 => absurd c_2 (by decide)) (fun _ => ?_)
  refine lv_aload_n hx hb dX9_put_19 rfl (lv_at hl 1 rfl) ?_
  refine va_get (D := (dC, dI)) (ci := 10) (v := .ref h1) (C := RX9) (T := TX9) (N := 2) hx hb hws inlX9 hown hK hP 0 rfl rfl 0 (by decide) (hws _ m_3_15) (fun _ h9 => h9) rfl dX9_put_20 ?_
  refine lv_aload_n hx hb dX9_put_23 rfl (lv_at hl 1 rfl) ?_
  refine va_get (D := (dC, dI)) (ci := 10) (v := .int 0) (C := RX9) (T := TX9) (N := 2) hx hb hws inlX9 hown hK hP 0 rfl rfl 1 (by decide) (hws _ m_3_16) (fun _ h9 => h9) rfl dX9_put_24 ?_
  refine lv_iload_n hx hb dX9_put_27 rfl (lv_at hl 2 rfl) ?_
  refine lv_iload_n hx hb dX9_put_28 rfl (lv_at hl 0 rfl) ?_
  refine lv_iushr hx hb dX9_put_29 rfl ?_
  refine lv_topi (fun x_3 _ => ?_)
  refine lv_sipush (v := 255) hx hb dX9_put_30 (by decide) ?_
  refine lv_iand hx hb dX9_put_33 ?_
  refine va_iastG hx hb hK hP hD hS 1 0 rfl rfl (vin_c (by decide)) dX9_put_34 (fun f_4 H locs hP hD hS => ?_)
  have hP : va_P (dC, dI) vwCl [(h0, .inr (10, [.ref h1, .int 0])), (h1, .inl (k0, 420, .inl f_4))] H := hP
  have hD : va_D A [(h0, .inr (10, [.ref h1, .int 0])), (h1, .inl (k0, 420, .inl f_4))] := hD
  refine lv_aload_n hx hb dX9_put_35 rfl (lv_at hl 1 rfl) ?_
  refine lv_dup hx hb dX9_put_36 rfl ?_
  refine va_get (D := (dC, dI)) (ci := 10) (v := .int 0) (C := RX9) (T := TX9) (N := 2) hx hb hws inlX9 hown hK hP 0 rfl rfl 1 (by decide) (hws _ m_3_16) (fun _ h9 => h9) rfl dX9_put_37 ?_
  refine lv_iconst (v := 1) hx hb dX9_put_40 (by decide) ?_
  refine lv_iadd hx hb dX9_put_41 ?_
  refine lv_topi (fun x_5 ex_5 => ?_)
  obtain rfl : x_5 = 1 := ex_5.trans (by decide)
  refine va_put (D := (dC, dI)) (ci := 10) (v := .int 1) (ty := .int) (C := RX9) (T := TX9) (N := 2) hx hb hws inlX9 tyX9 tyX9_ok nmX9 hown hK hP hD hS 0 rfl rfl 1 (by decide) (hws _ m_3_16) (fun _ h9 => h9) rfl (by decide +kernel) rfl rfl (Nat.le_of_ble_eq_true rfl) dX9_put_42 (fun H locs hP hD hS => ?_)
  have hP : va_P (dC, dI) vwCl [(h0, .inr (10, [.ref h1, .int 1])), (h1, .inl (k0, 420, .inl f_4))] H := hP
  have hD : va_D A [(h0, .inr (10, [.ref h1, .int 1])), (h1, .inl (k0, 420, .inl f_4))] := hD
  refine lv_iinc (v := 16) (lv' := [(2, .int 16), (0, .ref h0), (1, .int p0)]) hx hb dX9_put_45 hl (k := 0) rfl (by decide) (by decide) rfl (fun ls hl => ?_)
  refine lv_goto (tgt := 3) hx hb dX9_put_48 (by decide) ?_
  refine lv_iload_n hx hb dX9_put_3 rfl (lv_at hl 0 rfl) ?_
  refine lv_if_lt (tgt := 51) hx hb dX9_put_4 (by decide) (fun c_6 => absurd c_6 (by decide)) (fun _ => ?_)
  refine lv_aload_n hx hb dX9_put_7 rfl (lv_at hl 1 rfl) ?_
  refine va_get (D := (dC, dI)) (ci := 10) (v := .int 1) (C := RX9) (T := TX9) (N := 2) hx hb hws inlX9 hown hK hP 0 rfl rfl 1 (by decide) (hws _ m_3_16) (fun _ h9 => h9) rfl dX9_put_8 ?_
  refine lv_aload_n hx hb dX9_put_11 rfl (lv_at hl 1 rfl) ?_
  refine va_get (D := (dC, dI)) (ci := 10) (v := .ref h1) (C := RX9) (T := TX9) (N := 2) hx hb hws inlX9 hown hK hP 0 rfl rfl 0 (by decide) (hws _ m_3_15) (fun _ h9 => h9) rfl dX9_put_12 ?_
  refine va_alen hx hb hK hP 1 0 rfl rfl (v := 420) rfl dX9_put_15 ?_
  refine lv_icmp_ge (tgt := 51) hx hb dX9_put_16 (by decide) (fun c_7 => absurd c_7 (by decide)) (fun _ => ?_)
  refine lv_aload_n hx hb dX9_put_19 rfl (lv_at hl 1 rfl) ?_
  refine va_get (D := (dC, dI)) (ci := 10) (v := .ref h1) (C := RX9) (T := TX9) (N := 2) hx hb hws inlX9 hown hK hP 0 rfl rfl 0 (by decide) (hws _ m_3_15) (fun _ h9 => h9) rfl dX9_put_20 ?_
  refine lv_aload_n hx hb dX9_put_23 rfl (lv_at hl 1 rfl) ?_
  refine va_get (D := (dC, dI)) (ci := 10) (v := .int 1) (C := RX9) (T := TX9) (N := 2) hx hb hws inlX9 hown hK hP 0 rfl rfl 1 (by decide) (hws _ m_3_16) (fun _ h9 => h9) rfl dX9_put_24 ?_
  refine lv_iload_n hx hb dX9_put_27 rfl (lv_at hl 2 rfl) ?_
  refine lv_iload_n hx hb dX9_put_28 rfl (lv_at hl 0 rfl) ?_
  refine lv_iushr hx hb dX9_put_29 rfl ?_
  refine lv_topi (fun x_8 _ => ?_)
  refine lv_sipush (v := 255) hx hb dX9_put_30 (by decide) ?_
  refine lv_iand hx hb dX9_put_33 ?_
  refine va_iastG hx hb hK hP hD hS 1 0 rfl rfl (vin_c (by decide)) dX9_put_34 (fun f_9 H locs hP hD hS => ?_)
  have hP : va_P (dC, dI) vwCl [(h0, .inr (10, [.ref h1, .int 1])), (h1, .inl (k0, 420, .inl f_9))] H := hP
  have hD : va_D A [(h0, .inr (10, [.ref h1, .int 1])), (h1, .inl (k0, 420, .inl f_9))] := hD
  refine lv_aload_n hx hb dX9_put_35 rfl (lv_at hl 1 rfl) ?_
  refine lv_dup hx hb dX9_put_36 rfl ?_
  refine va_get (D := (dC, dI)) (ci := 10) (v := .int 1) (C := RX9) (T := TX9) (N := 2) hx hb hws inlX9 hown hK hP 0 rfl rfl 1 (by decide) (hws _ m_3_16) (fun _ h9 => h9) rfl dX9_put_37 ?_
  refine lv_iconst (v := 1) hx hb dX9_put_40 (by decide) ?_
  refine lv_iadd hx hb dX9_put_41 ?_
  refine lv_topi (fun x_10 ex_10 => ?_)
  obtain rfl : x_10 = 2 := ex_10.trans (by decide)
  refine va_put (D := (dC, dI)) (ci := 10) (v := .int 2) (ty := .int) (C := RX9) (T := TX9) (N := 2) hx hb hws inlX9 tyX9 tyX9_ok nmX9 hown hK hP hD hS 0 rfl rfl 1 (by decide) (hws _ m_3_16) (fun _ h9 => h9) rfl (by decide +kernel) rfl rfl (Nat.le_of_ble_eq_true rfl) dX9_put_42 (fun H locs hP hD hS => ?_)
  have hP : va_P (dC, dI) vwCl [(h0, .inr (10, [.ref h1, .int 2])), (h1, .inl (k0, 420, .inl f_9))] H := hP
  have hD : va_D A [(h0, .inr (10, [.ref h1, .int 2])), (h1, .inl (k0, 420, .inl f_9))] := hD
  refine lv_iinc (v := 8) (lv' := [(2, .int 8), (0, .ref h0), (1, .int p0)]) hx hb dX9_put_45 hl (k := 0) rfl (by decide) (by decide) rfl (fun ls hl => ?_)
  refine lv_goto (tgt := 3) hx hb dX9_put_48 (by decide) ?_
  refine lv_iload_n hx hb dX9_put_3 rfl (lv_at hl 0 rfl) ?_
  refine lv_if_lt (tgt := 51) hx hb dX9_put_4 (by decide) (fun c_11 => absurd c_11 (by decide)) (fun _ => ?_)
  refine lv_aload_n hx hb dX9_put_7 rfl (lv_at hl 1 rfl) ?_
  refine va_get (D := (dC, dI)) (ci := 10) (v := .int 2) (C := RX9) (T := TX9) (N := 2) hx hb hws inlX9 hown hK hP 0 rfl rfl 1 (by decide) (hws _ m_3_16) (fun _ h9 => h9) rfl dX9_put_8 ?_
  refine lv_aload_n hx hb dX9_put_11 rfl (lv_at hl 1 rfl) ?_
  refine va_get (D := (dC, dI)) (ci := 10) (v := .ref h1) (C := RX9) (T := TX9) (N := 2) hx hb hws inlX9 hown hK hP 0 rfl rfl 0 (by decide) (hws _ m_3_15) (fun _ h9 => h9) rfl dX9_put_12 ?_
  refine va_alen hx hb hK hP 1 0 rfl rfl (v := 420) rfl dX9_put_15 ?_
  refine lv_icmp_ge (tgt := 51) hx hb dX9_put_16 (by decide) (fun c_12 => absurd c_12 (by decide)) (fun _ => ?_)
  refine lv_aload_n hx hb dX9_put_19 rfl (lv_at hl 1 rfl) ?_
  refine va_get (D := (dC, dI)) (ci := 10) (v := .ref h1) (C := RX9) (T := TX9) (N := 2) hx hb hws inlX9 hown hK hP 0 rfl rfl 0 (by decide) (hws _ m_3_15) (fun _ h9 => h9) rfl dX9_put_20 ?_
  refine lv_aload_n hx hb dX9_put_23 rfl (lv_at hl 1 rfl) ?_
  refine va_get (D := (dC, dI)) (ci := 10) (v := .int 2) (C := RX9) (T := TX9) (N := 2) hx hb hws inlX9 hown hK hP 0 rfl rfl 1 (by decide) (hws _ m_3_16) (fun _ h9 => h9) rfl dX9_put_24 ?_
  refine lv_iload_n hx hb dX9_put_27 rfl (lv_at hl 2 rfl) ?_
  refine lv_iload_n hx hb dX9_put_28 rfl (lv_at hl 0 rfl) ?_
  refine lv_iushr hx hb dX9_put_29 rfl ?_
  refine lv_topi (fun x_13 _ => ?_)
  refine lv_sipush (v := 255) hx hb dX9_put_30 (by decide) ?_
  refine lv_iand hx hb dX9_put_33 ?_
  refine va_iastG hx hb hK hP hD hS 1 0 rfl rfl (vin_c (by decide)) dX9_put_34 (fun f_14 H locs hP hD hS => ?_)
  have hP : va_P (dC, dI) vwCl [(h0, .inr (10, [.ref h1, .int 2])), (h1, .inl (k0, 420, .inl f_14))] H := hP
  have hD : va_D A [(h0, .inr (10, [.ref h1, .int 2])), (h1, .inl (k0, 420, .inl f_14))] := hD
  refine lv_aload_n hx hb dX9_put_35 rfl (lv_at hl 1 rfl) ?_
  refine lv_dup hx hb dX9_put_36 rfl ?_
  refine va_get (D := (dC, dI)) (ci := 10) (v := .int 2) (C := RX9) (T := TX9) (N := 2) hx hb hws inlX9 hown hK hP 0 rfl rfl 1 (by decide) (hws _ m_3_16) (fun _ h9 => h9) rfl dX9_put_37 ?_
  refine lv_iconst (v := 1) hx hb dX9_put_40 (by decide) ?_
  refine lv_iadd hx hb dX9_put_41 ?_
  refine lv_topi (fun x_15 ex_15 => ?_)
  obtain rfl : x_15 = 3 := ex_15.trans (by decide)
  refine va_put (D := (dC, dI)) (ci := 10) (v := .int 3) (ty := .int) (C := RX9) (T := TX9) (N := 2) hx hb hws inlX9 tyX9 tyX9_ok nmX9 hown hK hP hD hS 0 rfl rfl 1 (by decide) (hws _ m_3_16) (fun _ h9 => h9) rfl (by decide +kernel) rfl rfl (Nat.le_of_ble_eq_true rfl) dX9_put_42 (fun H locs hP hD hS => ?_)
  have hP : va_P (dC, dI) vwCl [(h0, .inr (10, [.ref h1, .int 3])), (h1, .inl (k0, 420, .inl f_14))] H := hP
  have hD : va_D A [(h0, .inr (10, [.ref h1, .int 3])), (h1, .inl (k0, 420, .inl f_14))] := hD
  refine lv_iinc (v := 0) (lv' := [(2, .int 0), (0, .ref h0), (1, .int p0)]) hx hb dX9_put_45 hl (k := 0) rfl (by decide) (by decide) rfl (fun ls hl => ?_)
  refine lv_goto (tgt := 3) hx hb dX9_put_48 (by decide) ?_
  refine lv_iload_n hx hb dX9_put_3 rfl (lv_at hl 0 rfl) ?_
  refine lv_if_lt (tgt := 51) hx hb dX9_put_4 (by decide) (fun c_16 => absurd c_16 (by decide)) (fun _ => ?_)
  refine lv_aload_n hx hb dX9_put_7 rfl (lv_at hl 1 rfl) ?_
  refine va_get (D := (dC, dI)) (ci := 10) (v := .int 3) (C := RX9) (T := TX9) (N := 2) hx hb hws inlX9 hown hK hP 0 rfl rfl 1 (by decide) (hws _ m_3_16) (fun _ h9 => h9) rfl dX9_put_8 ?_
  refine lv_aload_n hx hb dX9_put_11 rfl (lv_at hl 1 rfl) ?_
  refine va_get (D := (dC, dI)) (ci := 10) (v := .ref h1) (C := RX9) (T := TX9) (N := 2) hx hb hws inlX9 hown hK hP 0 rfl rfl 0 (by decide) (hws _ m_3_15) (fun _ h9 => h9) rfl dX9_put_12 ?_
  refine va_alen hx hb hK hP 1 0 rfl rfl (v := 420) rfl dX9_put_15 ?_
  refine lv_icmp_ge (tgt := 51) hx hb dX9_put_16 (by decide) (fun c_17 => absurd c_17 (by decide)) (fun _ => ?_)
  refine lv_aload_n hx hb dX9_put_19 rfl (lv_at hl 1 rfl) ?_
  refine va_get (D := (dC, dI)) (ci := 10) (v := .ref h1) (C := RX9) (T := TX9) (N := 2) hx hb hws inlX9 hown hK hP 0 rfl rfl 0 (by decide) (hws _ m_3_15) (fun _ h9 => h9) rfl dX9_put_20 ?_
  refine lv_aload_n hx hb dX9_put_23 rfl (lv_at hl 1 rfl) ?_
  refine va_get (D := (dC, dI)) (ci := 10) (v := .int 3) (C := RX9) (T := TX9) (N := 2) hx hb hws inlX9 hown hK hP 0 rfl rfl 1 (by decide) (hws _ m_3_16) (fun _ h9 => h9) rfl dX9_put_24 ?_
  refine lv_iload_n hx hb dX9_put_27 rfl (lv_at hl 2 rfl) ?_
  refine lv_iload_n hx hb dX9_put_28 rfl (lv_at hl 0 rfl) ?_
  refine lv_iushr hx hb dX9_put_29 rfl ?_
  refine lv_topi (fun x_18 _ => ?_)
  refine lv_sipush (v := 255) hx hb dX9_put_30 (by decide) ?_
  refine lv_iand hx hb dX9_put_33 ?_
  refine va_iastG hx hb hK hP hD hS 1 0 rfl rfl (vin_c (by decide)) dX9_put_34 (fun f_19 H locs hP hD hS => ?_)
  have hP : va_P (dC, dI) vwCl [(h0, .inr (10, [.ref h1, .int 3])), (h1, .inl (k0, 420, .inl f_19))] H := hP
  have hD : va_D A [(h0, .inr (10, [.ref h1, .int 3])), (h1, .inl (k0, 420, .inl f_19))] := hD
  refine lv_aload_n hx hb dX9_put_35 rfl (lv_at hl 1 rfl) ?_
  refine lv_dup hx hb dX9_put_36 rfl ?_
  refine va_get (D := (dC, dI)) (ci := 10) (v := .int 3) (C := RX9) (T := TX9) (N := 2) hx hb hws inlX9 hown hK hP 0 rfl rfl 1 (by decide) (hws _ m_3_16) (fun _ h9 => h9) rfl dX9_put_37 ?_
  refine lv_iconst (v := 1) hx hb dX9_put_40 (by decide) ?_
  refine lv_iadd hx hb dX9_put_41 ?_
  refine lv_topi (fun x_20 ex_20 => ?_)
  obtain rfl : x_20 = 4 := ex_20.trans (by decide)
  refine va_put (D := (dC, dI)) (ci := 10) (v := .int 4) (ty := .int) (C := RX9) (T := TX9) (N := 2) hx hb hws inlX9 tyX9 tyX9_ok nmX9 hown hK hP hD hS 0 rfl rfl 1 (by decide) (hws _ m_3_16) (fun _ h9 => h9) rfl (by decide +kernel) rfl rfl (Nat.le_of_ble_eq_true rfl) dX9_put_42 (fun H locs hP hD hS => ?_)
  have hP : va_P (dC, dI) vwCl [(h0, .inr (10, [.ref h1, .int 4])), (h1, .inl (k0, 420, .inl f_19))] H := hP
  have hD : va_D A [(h0, .inr (10, [.ref h1, .int 4])), (h1, .inl (k0, 420, .inl f_19))] := hD
  refine lv_iinc (v := (-8)) (lv' := [(2, .int (-8)), (0, .ref h0), (1, .int p0)]) hx hb dX9_put_45 hl (k := 0) rfl (by decide) (by decide) rfl (fun ls hl => ?_)
  refine lv_goto (tgt := 3) hx hb dX9_put_48 (by decide) ?_
  refine lv_iload_n hx hb dX9_put_3 rfl (lv_at hl 0 rfl) ?_
  refine lv_if_lt (tgt := 51) hx hb dX9_put_4 (by decide) (fun _ => ?_) (fun c_21 => absurd (by decide) c_21)
  have hK9 := hK.sub (tys' := [(k0, .int)]) [0] rfl
  exact W.vret hx hb hr (fun t ht hW => ⟨⟨(), rfl, trivial, ⟨(fun k9 => ([] : List (Nat)).getD k9 0), (fun k9 => ([] : List ClassId).getD k9 default), (fun k9 => ([f_19] : List (Nat → Int32)).getD k9 (fun _ => 0)), (fun k9 => ([] : List (Int32)).getD k9 0), (fun k9 => ([] : List (Nat → Nat)).getD k9 (fun _ => 0)), by rw [ht]; exact hP, va_K.moved hW.alike hK9, hD⟩⟩, hS.F ht⟩) hS.2.2 dX9_put_51

set_option maxHeartbeats 4000000 in
set_option maxRecDepth 100000 in
theorem c_X9_put_v2 (l : Launch) (dC : Nat → ClassId) (dI : Nat → Nat → Nat) (h0 : Nat) (p0 : Int32) (h1 : Nat) (k0 : ClassId) (f0 : Nat → Int32) (sz : Nat) : Met l yX9_put (Cond.code yX9_put cX9_put 3 none :: wsL_law) ({ frames := 0, cells := 0, slots := 0, locals := 0 }) (va_Pc [.ref h0, .int p0] (fun U => U.heap.size = sz ∧ va_P (dC, dI) vwCl [(h0, .inr (10, [.ref h1, .int 4])), (h1, .inl (k0, 420, .inl f0))] U.heap ∧ va_K (dC, dI) vwCl [(k0, .int)] U ∧ va_D (fun _ => True) [(h0, .inr (10, [.ref h1, .int 4])), (h1, .inl (k0, 420, .inl f0))])) (va_Qv (fun (_ : Unit) => True) (fun (_ : Unit) (t : State) => ∃ (qa : Nat → Nat) (qc : Nat → ClassId) (qg : Nat → Nat → Int32) (qz : Nat → Int32) (qr : Nat → Nat → Nat), va_P (dC, dI) vwCl [(h0, .inr (10, [.ref h1, .int 8])), (h1, .inl (k0, 420, .inl (qg 0)))] t.heap ∧ va_K (dC, dI) vwCl [(k0, .int)] t ∧ va_D (va_A [(h0, .inr (10, [.ref h1, .int 4])), (h1, .inl (k0, 420, .inl f0))] sz) [(h0, .inr (10, [.ref h1, .int 8])), (h1, .inl (k0, 420, .inl (qg 0)))]) (va_A [(h0, .inr (10, [.ref h1, .int 4])), (h1, .inl (k0, 420, .inl f0))] sz)) 0 0 (va_A [(h0, .inr (10, [.ref h1, .int 4])), (h1, .inl (k0, 420, .inl f0))] sz) := by
  refine Met.ofW (cc := cX9_put) (maxL := 3) (ret := none) (by decide) rfl ?_
  intro p e s m args below meth c s₁ B hml hv
  obtain ⟨rfl, hsz, hP, hK, hD0⟩ := hv
  have hx := B.exec
  have hb := B.bytes
  have hr := B.returns
  have hts := atoms_spec (ws := Cond.code yX9_put cX9_put 3 none :: wsL_law) B.pre
  have hws : ∀ w ∈ wsL_law, w.before _ s = true := fun w h => hts w (List.mem_cons_of_mem _ h)
  have hown : s.vm.findClass RX9 = some m.cls := findClass_of_methodNamed B.named
  have hlocks := B.notSynchronized
  subst hsz
  have hD := hD0.self (sz := s.heap.size)
  generalize hAe : va_A [(h0, .inr (10, [.ref h1, .int 4])), (h1, .inl (k0, 420, .inl f0))] s.heap.size = A at hD ⊢
  have hA : ∀ q : Nat, s.heap.size ≤ q → A q := fun q h => by rw [← hAe]; exact Or.inr h
  have hS : va_S A s.heap s.heap [] := va_S.rf
  have hP : va_P (dC, dI) vwCl [(h0, .inr (10, [.ref h1, .int 4])), (h1, .inl (k0, 420, .inl f0))] s.heap := hP
  have hl := lv_entry ([.ref h0, .int p0]) (n := 3) (Nat.le_of_ble_eq_true rfl)
  rw [lg_entry_eq]
  generalize (lg_sl ([.ref h0, .int p0]) ++ List.replicate (3 - (lg_sl ([.ref h0, .int p0])).length) Slot.unset).toArray = ls at hl ⊢
  have hl : lv_has ls 3 [(0, .ref h0), (1, .int p0)] := hl
  refine lv_bipush (v := 24) hx hb dX9_put_0 (by decide) ?_
  refine lv_istore_n (lv' := [(2, .int 24), (0, .ref h0), (1, .int p0)]) hx hb dX9_put_2 rfl hl (by decide) rfl (fun ls hl => ?_)
  refine lv_iload_n hx hb dX9_put_3 rfl (lv_at hl 0 rfl) ?_
  refine lv_if_lt (tgt := 51) hx hb dX9_put_4 (by decide) (fun c_1 => absurd c_1 (by decide)) (fun _ => ?_)
  refine lv_aload_n hx hb dX9_put_7 rfl (lv_at hl 1 rfl) ?_
  refine va_get (D := (dC, dI)) (ci := 10) (v := .int 4) (C := RX9) (T := TX9) (N := 2) hx hb hws inlX9 hown hK hP 0 rfl rfl 1 (by decide) (hws _ m_3_16) (fun _ h9 => h9) rfl dX9_put_8 ?_
  refine lv_aload_n hx hb dX9_put_11 rfl (lv_at hl 1 rfl) ?_
  refine va_get (D := (dC, dI)) (ci := 10) (v := .ref h1) (C := RX9) (T := TX9) (N := 2) hx hb hws inlX9 hown hK hP 0 rfl rfl 0 (by decide) (hws _ m_3_15) (fun _ h9 => h9) rfl dX9_put_12 ?_
  refine va_alen hx hb hK hP 1 0 rfl rfl (v := 420) rfl dX9_put_15 ?_
  refine lv_icmp_ge (tgt := 51) hx hb dX9_put_16 (by decide) (fun c_2 => absurd c_2 (by decide)) (fun _ => ?_)
  refine lv_aload_n hx hb dX9_put_19 rfl (lv_at hl 1 rfl) ?_
  refine va_get (D := (dC, dI)) (ci := 10) (v := .ref h1) (C := RX9) (T := TX9) (N := 2) hx hb hws inlX9 hown hK hP 0 rfl rfl 0 (by decide) (hws _ m_3_15) (fun _ h9 => h9) rfl dX9_put_20 ?_
  refine lv_aload_n hx hb dX9_put_23 rfl (lv_at hl 1 rfl) ?_
  refine va_get (D := (dC, dI)) (ci := 10) (v := .int 4) (C := RX9) (T := TX9) (N := 2) hx hb hws inlX9 hown hK hP 0 rfl rfl 1 (by decide) (hws _ m_3_16) (fun _ h9 => h9) rfl dX9_put_24 ?_
  refine lv_iload_n hx hb dX9_put_27 rfl (lv_at hl 2 rfl) ?_
  refine lv_iload_n hx hb dX9_put_28 rfl (lv_at hl 0 rfl) ?_
  refine lv_iushr hx hb dX9_put_29 rfl ?_
  refine lv_topi (fun x_3 _ => ?_)
  refine lv_sipush (v := 255) hx hb dX9_put_30 (by decide) ?_
  refine lv_iand hx hb dX9_put_33 ?_
  refine va_iastG hx hb hK hP hD hS 1 0 rfl rfl (vin_c (by decide)) dX9_put_34 (fun f_4 H locs hP hD hS => ?_)
  have hP : va_P (dC, dI) vwCl [(h0, .inr (10, [.ref h1, .int 4])), (h1, .inl (k0, 420, .inl f_4))] H := hP
  have hD : va_D A [(h0, .inr (10, [.ref h1, .int 4])), (h1, .inl (k0, 420, .inl f_4))] := hD
  refine lv_aload_n hx hb dX9_put_35 rfl (lv_at hl 1 rfl) ?_
  refine lv_dup hx hb dX9_put_36 rfl ?_
  refine va_get (D := (dC, dI)) (ci := 10) (v := .int 4) (C := RX9) (T := TX9) (N := 2) hx hb hws inlX9 hown hK hP 0 rfl rfl 1 (by decide) (hws _ m_3_16) (fun _ h9 => h9) rfl dX9_put_37 ?_
  refine lv_iconst (v := 1) hx hb dX9_put_40 (by decide) ?_
  refine lv_iadd hx hb dX9_put_41 ?_
  refine lv_topi (fun x_5 ex_5 => ?_)
  obtain rfl : x_5 = 5 := ex_5.trans (by decide)
  refine va_put (D := (dC, dI)) (ci := 10) (v := .int 5) (ty := .int) (C := RX9) (T := TX9) (N := 2) hx hb hws inlX9 tyX9 tyX9_ok nmX9 hown hK hP hD hS 0 rfl rfl 1 (by decide) (hws _ m_3_16) (fun _ h9 => h9) rfl (by decide +kernel) rfl rfl (Nat.le_of_ble_eq_true rfl) dX9_put_42 (fun H locs hP hD hS => ?_)
  have hP : va_P (dC, dI) vwCl [(h0, .inr (10, [.ref h1, .int 5])), (h1, .inl (k0, 420, .inl f_4))] H := hP
  have hD : va_D A [(h0, .inr (10, [.ref h1, .int 5])), (h1, .inl (k0, 420, .inl f_4))] := hD
  refine lv_iinc (v := 16) (lv' := [(2, .int 16), (0, .ref h0), (1, .int p0)]) hx hb dX9_put_45 hl (k := 0) rfl (by decide) (by decide) rfl (fun ls hl => ?_)
  refine lv_goto (tgt := 3) hx hb dX9_put_48 (by decide) ?_
  refine lv_iload_n hx hb dX9_put_3 rfl (lv_at hl 0 rfl) ?_
  refine lv_if_lt (tgt := 51) hx hb dX9_put_4 (by decide) (fun c_6 => absurd c_6 (by decide)) (fun _ => ?_)
  refine lv_aload_n hx hb dX9_put_7 rfl (lv_at hl 1 rfl) ?_
  refine va_get (D := (dC, dI)) (ci := 10) (v := .int 5) (C := RX9) (T := TX9) (N := 2) hx hb hws inlX9 hown hK hP 0 rfl rfl 1 (by decide) (hws _ m_3_16) (fun _ h9 => h9) rfl dX9_put_8 ?_
  refine lv_aload_n hx hb dX9_put_11 rfl (lv_at hl 1 rfl) ?_
  refine va_get (D := (dC, dI)) (ci := 10) (v := .ref h1) (C := RX9) (T := TX9) (N := 2) hx hb hws inlX9 hown hK hP 0 rfl rfl 0 (by decide) (hws _ m_3_15) (fun _ h9 => h9) rfl dX9_put_12 ?_
  refine va_alen hx hb hK hP 1 0 rfl rfl (v := 420) rfl dX9_put_15 ?_
  refine lv_icmp_ge (tgt := 51) hx hb dX9_put_16 (by decide) (fun c_7 => absurd c_7 (by decide)) (fun _ => ?_)
  refine lv_aload_n hx hb dX9_put_19 rfl (lv_at hl 1 rfl) ?_
  refine va_get (D := (dC, dI)) (ci := 10) (v := .ref h1) (C := RX9) (T := TX9) (N := 2) hx hb hws inlX9 hown hK hP 0 rfl rfl 0 (by decide) (hws _ m_3_15) (fun _ h9 => h9) rfl dX9_put_20 ?_
  refine lv_aload_n hx hb dX9_put_23 rfl (lv_at hl 1 rfl) ?_
  refine va_get (D := (dC, dI)) (ci := 10) (v := .int 5) (C := RX9) (T := TX9) (N := 2) hx hb hws inlX9 hown hK hP 0 rfl rfl 1 (by decide) (hws _ m_3_16) (fun _ h9 => h9) rfl dX9_put_24 ?_
  refine lv_iload_n hx hb dX9_put_27 rfl (lv_at hl 2 rfl) ?_
  refine lv_iload_n hx hb dX9_put_28 rfl (lv_at hl 0 rfl) ?_
  refine lv_iushr hx hb dX9_put_29 rfl ?_
  refine lv_topi (fun x_8 _ => ?_)
  refine lv_sipush (v := 255) hx hb dX9_put_30 (by decide) ?_
  refine lv_iand hx hb dX9_put_33 ?_
  refine va_iastG hx hb hK hP hD hS 1 0 rfl rfl (vin_c (by decide)) dX9_put_34 (fun f_9 H locs hP hD hS => ?_)
  have hP : va_P (dC, dI) vwCl [(h0, .inr (10, [.ref h1, .int 5])), (h1, .inl (k0, 420, .inl f_9))] H := hP
  have hD : va_D A [(h0, .inr (10, [.ref h1, .int 5])), (h1, .inl (k0, 420, .inl f_9))] := hD
  refine lv_aload_n hx hb dX9_put_35 rfl (lv_at hl 1 rfl) ?_
  refine lv_dup hx hb dX9_put_36 rfl ?_
  refine va_get (D := (dC, dI)) (ci := 10) (v := .int 5) (C := RX9) (T := TX9) (N := 2) hx hb hws inlX9 hown hK hP 0 rfl rfl 1 (by decide) (hws _ m_3_16) (fun _ h9 => h9) rfl dX9_put_37 ?_
  refine lv_iconst (v := 1) hx hb dX9_put_40 (by decide) ?_
  refine lv_iadd hx hb dX9_put_41 ?_
  refine lv_topi (fun x_10 ex_10 => ?_)
  obtain rfl : x_10 = 6 := ex_10.trans (by decide)
  refine va_put (D := (dC, dI)) (ci := 10) (v := .int 6) (ty := .int) (C := RX9) (T := TX9) (N := 2) hx hb hws inlX9 tyX9 tyX9_ok nmX9 hown hK hP hD hS 0 rfl rfl 1 (by decide) (hws _ m_3_16) (fun _ h9 => h9) rfl (by decide +kernel) rfl rfl (Nat.le_of_ble_eq_true rfl) dX9_put_42 (fun H locs hP hD hS => ?_)
  have hP : va_P (dC, dI) vwCl [(h0, .inr (10, [.ref h1, .int 6])), (h1, .inl (k0, 420, .inl f_9))] H := hP
  have hD : va_D A [(h0, .inr (10, [.ref h1, .int 6])), (h1, .inl (k0, 420, .inl f_9))] := hD
  refine lv_iinc (v := 8) (lv' := [(2, .int 8), (0, .ref h0), (1, .int p0)]) hx hb dX9_put_45 hl (k := 0) rfl (by decide) (by decide) rfl (fun ls hl => ?_)
  refine lv_goto (tgt := 3) hx hb dX9_put_48 (by decide) ?_
  refine lv_iload_n hx hb dX9_put_3 rfl (lv_at hl 0 rfl) ?_
  refine lv_if_lt (tgt := 51) hx hb dX9_put_4 (by decide) (fun c_11 => absurd c_11 (by decide)) (fun _ => ?_)
  refine lv_aload_n hx hb dX9_put_7 rfl (lv_at hl 1 rfl) ?_
  refine va_get (D := (dC, dI)) (ci := 10) (v := .int 6) (C := RX9) (T := TX9) (N := 2) hx hb hws inlX9 hown hK hP 0 rfl rfl 1 (by decide) (hws _ m_3_16) (fun _ h9 => h9) rfl dX9_put_8 ?_
  refine lv_aload_n hx hb dX9_put_11 rfl (lv_at hl 1 rfl) ?_
  refine va_get (D := (dC, dI)) (ci := 10) (v := .ref h1) (C := RX9) (T := TX9) (N := 2) hx hb hws inlX9 hown hK hP 0 rfl rfl 0 (by decide) (hws _ m_3_15) (fun _ h9 => h9) rfl dX9_put_12 ?_
  refine va_alen hx hb hK hP 1 0 rfl rfl (v := 420) rfl dX9_put_15 ?_
  refine lv_icmp_ge (tgt := 51) hx hb dX9_put_16 (by decide) (fun c_12 => absurd c_12 (by decide)) (fun _ => ?_)
  refine lv_aload_n hx hb dX9_put_19 rfl (lv_at hl 1 rfl) ?_
  refine va_get (D := (dC, dI)) (ci := 10) (v := .ref h1) (C := RX9) (T := TX9) (N := 2) hx hb hws inlX9 hown hK hP 0 rfl rfl 0 (by decide) (hws _ m_3_15) (fun _ h9 => h9) rfl dX9_put_20 ?_
  refine lv_aload_n hx hb dX9_put_23 rfl (lv_at hl 1 rfl) ?_
  refine va_get (D := (dC, dI)) (ci := 10) (v := .int 6) (C := RX9) (T := TX9) (N := 2) hx hb hws inlX9 hown hK hP 0 rfl rfl 1 (by decide) (hws _ m_3_16) (fun _ h9 => h9) rfl dX9_put_24 ?_
  refine lv_iload_n hx hb dX9_put_27 rfl (lv_at hl 2 rfl) ?_
  refine lv_iload_n hx hb dX9_put_28 rfl (lv_at hl 0 rfl) ?_
  refine lv_iushr hx hb dX9_put_29 rfl ?_
  refine lv_topi (fun x_13 _ => ?_)
  refine lv_sipush (v := 255) hx hb dX9_put_30 (by decide) ?_
  refine lv_iand hx hb dX9_put_33 ?_
  refine va_iastG hx hb hK hP hD hS 1 0 rfl rfl (vin_c (by decide)) dX9_put_34 (fun f_14 H locs hP hD hS => ?_)
  have hP : va_P (dC, dI) vwCl [(h0, .inr (10, [.ref h1, .int 6])), (h1, .inl (k0, 420, .inl f_14))] H := hP
  have hD : va_D A [(h0, .inr (10, [.ref h1, .int 6])), (h1, .inl (k0, 420, .inl f_14))] := hD
  refine lv_aload_n hx hb dX9_put_35 rfl (lv_at hl 1 rfl) ?_
  refine lv_dup hx hb dX9_put_36 rfl ?_
  refine va_get (D := (dC, dI)) (ci := 10) (v := .int 6) (C := RX9) (T := TX9) (N := 2) hx hb hws inlX9 hown hK hP 0 rfl rfl 1 (by decide) (hws _ m_3_16) (fun _ h9 => h9) rfl dX9_put_37 ?_
  refine lv_iconst (v := 1) hx hb dX9_put_40 (by decide) ?_
  refine lv_iadd hx hb dX9_put_41 ?_
  refine lv_topi (fun x_15 ex_15 => ?_)
  obtain rfl : x_15 = 7 := ex_15.trans (by decide)
  refine va_put (D := (dC, dI)) (ci := 10) (v := .int 7) (ty := .int) (C := RX9) (T := TX9) (N := 2) hx hb hws inlX9 tyX9 tyX9_ok nmX9 hown hK hP hD hS 0 rfl rfl 1 (by decide) (hws _ m_3_16) (fun _ h9 => h9) rfl (by decide +kernel) rfl rfl (Nat.le_of_ble_eq_true rfl) dX9_put_42 (fun H locs hP hD hS => ?_)
  have hP : va_P (dC, dI) vwCl [(h0, .inr (10, [.ref h1, .int 7])), (h1, .inl (k0, 420, .inl f_14))] H := hP
  have hD : va_D A [(h0, .inr (10, [.ref h1, .int 7])), (h1, .inl (k0, 420, .inl f_14))] := hD
  refine lv_iinc (v := 0) (lv' := [(2, .int 0), (0, .ref h0), (1, .int p0)]) hx hb dX9_put_45 hl (k := 0) rfl (by decide) (by decide) rfl (fun ls hl => ?_)
  refine lv_goto (tgt := 3) hx hb dX9_put_48 (by decide) ?_
  refine lv_iload_n hx hb dX9_put_3 rfl (lv_at hl 0 rfl) ?_
  refine lv_if_lt (tgt := 51) hx hb dX9_put_4 (by decide) (fun c_16 => absurd c_16 (by decide)) (fun _ => ?_)
  refine lv_aload_n hx hb dX9_put_7 rfl (lv_at hl 1 rfl) ?_
  refine va_get (D := (dC, dI)) (ci := 10) (v := .int 7) (C := RX9) (T := TX9) (N := 2) hx hb hws inlX9 hown hK hP 0 rfl rfl 1 (by decide) (hws _ m_3_16) (fun _ h9 => h9) rfl dX9_put_8 ?_
  refine lv_aload_n hx hb dX9_put_11 rfl (lv_at hl 1 rfl) ?_
  refine va_get (D := (dC, dI)) (ci := 10) (v := .ref h1) (C := RX9) (T := TX9) (N := 2) hx hb hws inlX9 hown hK hP 0 rfl rfl 0 (by decide) (hws _ m_3_15) (fun _ h9 => h9) rfl dX9_put_12 ?_
  refine va_alen hx hb hK hP 1 0 rfl rfl (v := 420) rfl dX9_put_15 ?_
  refine lv_icmp_ge (tgt := 51) hx hb dX9_put_16 (by decide) (fun c_17 => absurd c_17 (by decide)) (fun _ => ?_)
  refine lv_aload_n hx hb dX9_put_19 rfl (lv_at hl 1 rfl) ?_
  refine va_get (D := (dC, dI)) (ci := 10) (v := .ref h1) (C := RX9) (T := TX9) (N := 2) hx hb hws inlX9 hown hK hP 0 rfl rfl 0 (by decide) (hws _ m_3_15) (fun _ h9 => h9) rfl dX9_put_20 ?_
  refine lv_aload_n hx hb dX9_put_23 rfl (lv_at hl 1 rfl) ?_
  refine va_get (D := (dC, dI)) (ci := 10) (v := .int 7) (C := RX9) (T := TX9) (N := 2) hx hb hws inlX9 hown hK hP 0 rfl rfl 1 (by decide) (hws _ m_3_16) (fun _ h9 => h9) rfl dX9_put_24 ?_
  refine lv_iload_n hx hb dX9_put_27 rfl (lv_at hl 2 rfl) ?_
  refine lv_iload_n hx hb dX9_put_28 rfl (lv_at hl 0 rfl) ?_
  refine lv_iushr hx hb dX9_put_29 rfl ?_
  refine lv_topi (fun x_18 _ => ?_)
  refine lv_sipush (v := 255) hx hb dX9_put_30 (by decide) ?_
  refine lv_iand hx hb dX9_put_33 ?_
  refine va_iastG hx hb hK hP hD hS 1 0 rfl rfl (vin_c (by decide)) dX9_put_34 (fun f_19 H locs hP hD hS => ?_)
  have hP : va_P (dC, dI) vwCl [(h0, .inr (10, [.ref h1, .int 7])), (h1, .inl (k0, 420, .inl f_19))] H := hP
  have hD : va_D A [(h0, .inr (10, [.ref h1, .int 7])), (h1, .inl (k0, 420, .inl f_19))] := hD
  refine lv_aload_n hx hb dX9_put_35 rfl (lv_at hl 1 rfl) ?_
  refine lv_dup hx hb dX9_put_36 rfl ?_
  refine va_get (D := (dC, dI)) (ci := 10) (v := .int 7) (C := RX9) (T := TX9) (N := 2) hx hb hws inlX9 hown hK hP 0 rfl rfl 1 (by decide) (hws _ m_3_16) (fun _ h9 => h9) rfl dX9_put_37 ?_
  refine lv_iconst (v := 1) hx hb dX9_put_40 (by decide) ?_
  refine lv_iadd hx hb dX9_put_41 ?_
  refine lv_topi (fun x_20 ex_20 => ?_)
  obtain rfl : x_20 = 8 := ex_20.trans (by decide)
  refine va_put (D := (dC, dI)) (ci := 10) (v := .int 8) (ty := .int) (C := RX9) (T := TX9) (N := 2) hx hb hws inlX9 tyX9 tyX9_ok nmX9 hown hK hP hD hS 0 rfl rfl 1 (by decide) (hws _ m_3_16) (fun _ h9 => h9) rfl (by decide +kernel) rfl rfl (Nat.le_of_ble_eq_true rfl) dX9_put_42 (fun H locs hP hD hS => ?_)
  have hP : va_P (dC, dI) vwCl [(h0, .inr (10, [.ref h1, .int 8])), (h1, .inl (k0, 420, .inl f_19))] H := hP
  have hD : va_D A [(h0, .inr (10, [.ref h1, .int 8])), (h1, .inl (k0, 420, .inl f_19))] := hD
  refine lv_iinc (v := (-8)) (lv' := [(2, .int (-8)), (0, .ref h0), (1, .int p0)]) hx hb dX9_put_45 hl (k := 0) rfl (by decide) (by decide) rfl (fun ls hl => ?_)
  refine lv_goto (tgt := 3) hx hb dX9_put_48 (by decide) ?_
  refine lv_iload_n hx hb dX9_put_3 rfl (lv_at hl 0 rfl) ?_
  refine lv_if_lt (tgt := 51) hx hb dX9_put_4 (by decide) (fun _ => ?_) (fun c_21 => absurd (by decide) c_21)
  have hK9 := hK.sub (tys' := [(k0, .int)]) [0] rfl
  exact W.vret hx hb hr (fun t ht hW => ⟨⟨(), rfl, trivial, ⟨(fun k9 => ([] : List (Nat)).getD k9 0), (fun k9 => ([] : List ClassId).getD k9 default), (fun k9 => ([f_19] : List (Nat → Int32)).getD k9 (fun _ => 0)), (fun k9 => ([] : List (Int32)).getD k9 0), (fun k9 => ([] : List (Nat → Nat)).getD k9 (fun _ => 0)), by rw [ht]; exact hP, va_K.moved hW.alike hK9, hD⟩⟩, hS.F ht⟩) hS.2.2 dX9_put_51

set_option maxHeartbeats 4000000 in
set_option maxRecDepth 100000 in
theorem c_X9_put_v3 (l : Launch) (dC : Nat → ClassId) (dI : Nat → Nat → Nat) (h0 : Nat) (p0 : Int32) (h1 : Nat) (k0 : ClassId) (f0 : Nat → Int32) (sz : Nat) : Met l yX9_put (Cond.code yX9_put cX9_put 3 none :: wsL_law) ({ frames := 0, cells := 0, slots := 0, locals := 0 }) (va_Pc [.ref h0, .int p0] (fun U => U.heap.size = sz ∧ va_P (dC, dI) vwCl [(h0, .inr (10, [.ref h1, .int 8])), (h1, .inl (k0, 420, .inl f0))] U.heap ∧ va_K (dC, dI) vwCl [(k0, .int)] U ∧ va_D (fun _ => True) [(h0, .inr (10, [.ref h1, .int 8])), (h1, .inl (k0, 420, .inl f0))])) (va_Qv (fun (_ : Unit) => True) (fun (_ : Unit) (t : State) => ∃ (qa : Nat → Nat) (qc : Nat → ClassId) (qg : Nat → Nat → Int32) (qz : Nat → Int32) (qr : Nat → Nat → Nat), va_P (dC, dI) vwCl [(h0, .inr (10, [.ref h1, .int 12])), (h1, .inl (k0, 420, .inl (qg 0)))] t.heap ∧ va_K (dC, dI) vwCl [(k0, .int)] t ∧ va_D (va_A [(h0, .inr (10, [.ref h1, .int 8])), (h1, .inl (k0, 420, .inl f0))] sz) [(h0, .inr (10, [.ref h1, .int 12])), (h1, .inl (k0, 420, .inl (qg 0)))]) (va_A [(h0, .inr (10, [.ref h1, .int 8])), (h1, .inl (k0, 420, .inl f0))] sz)) 0 0 (va_A [(h0, .inr (10, [.ref h1, .int 8])), (h1, .inl (k0, 420, .inl f0))] sz) := by
  refine Met.ofW (cc := cX9_put) (maxL := 3) (ret := none) (by decide) rfl ?_
  intro p e s m args below meth c s₁ B hml hv
  obtain ⟨rfl, hsz, hP, hK, hD0⟩ := hv
  have hx := B.exec
  have hb := B.bytes
  have hr := B.returns
  have hts := atoms_spec (ws := Cond.code yX9_put cX9_put 3 none :: wsL_law) B.pre
  have hws : ∀ w ∈ wsL_law, w.before _ s = true := fun w h => hts w (List.mem_cons_of_mem _ h)
  have hown : s.vm.findClass RX9 = some m.cls := findClass_of_methodNamed B.named
  have hlocks := B.notSynchronized
  subst hsz
  have hD := hD0.self (sz := s.heap.size)
  generalize hAe : va_A [(h0, .inr (10, [.ref h1, .int 8])), (h1, .inl (k0, 420, .inl f0))] s.heap.size = A at hD ⊢
  have hA : ∀ q : Nat, s.heap.size ≤ q → A q := fun q h => by rw [← hAe]; exact Or.inr h
  have hS : va_S A s.heap s.heap [] := va_S.rf
  have hP : va_P (dC, dI) vwCl [(h0, .inr (10, [.ref h1, .int 8])), (h1, .inl (k0, 420, .inl f0))] s.heap := hP
  have hl := lv_entry ([.ref h0, .int p0]) (n := 3) (Nat.le_of_ble_eq_true rfl)
  rw [lg_entry_eq]
  generalize (lg_sl ([.ref h0, .int p0]) ++ List.replicate (3 - (lg_sl ([.ref h0, .int p0])).length) Slot.unset).toArray = ls at hl ⊢
  have hl : lv_has ls 3 [(0, .ref h0), (1, .int p0)] := hl
  refine lv_bipush (v := 24) hx hb dX9_put_0 (by decide) ?_
  refine lv_istore_n (lv' := [(2, .int 24), (0, .ref h0), (1, .int p0)]) hx hb dX9_put_2 rfl hl (by decide) rfl (fun ls hl => ?_)
  refine lv_iload_n hx hb dX9_put_3 rfl (lv_at hl 0 rfl) ?_
  refine lv_if_lt (tgt := 51) hx hb dX9_put_4 (by decide) (fun c_1 => absurd c_1 (by decide)) (fun _ => ?_)
  refine lv_aload_n hx hb dX9_put_7 rfl (lv_at hl 1 rfl) ?_
  refine va_get (D := (dC, dI)) (ci := 10) (v := .int 8) (C := RX9) (T := TX9) (N := 2) hx hb hws inlX9 hown hK hP 0 rfl rfl 1 (by decide) (hws _ m_3_16) (fun _ h9 => h9) rfl dX9_put_8 ?_
  refine lv_aload_n hx hb dX9_put_11 rfl (lv_at hl 1 rfl) ?_
  refine va_get (D := (dC, dI)) (ci := 10) (v := .ref h1) (C := RX9) (T := TX9) (N := 2) hx hb hws inlX9 hown hK hP 0 rfl rfl 0 (by decide) (hws _ m_3_15) (fun _ h9 => h9) rfl dX9_put_12 ?_
  refine va_alen hx hb hK hP 1 0 rfl rfl (v := 420) rfl dX9_put_15 ?_
  refine lv_icmp_ge (tgt := 51) hx hb dX9_put_16 (by decide) (fun c_2 => absurd c_2 (by decide)) (fun _ => ?_)
  refine lv_aload_n hx hb dX9_put_19 rfl (lv_at hl 1 rfl) ?_
  refine va_get (D := (dC, dI)) (ci := 10) (v := .ref h1) (C := RX9) (T := TX9) (N := 2) hx hb hws inlX9 hown hK hP 0 rfl rfl 0 (by decide) (hws _ m_3_15) (fun _ h9 => h9) rfl dX9_put_20 ?_
  refine lv_aload_n hx hb dX9_put_23 rfl (lv_at hl 1 rfl) ?_
  refine va_get (D := (dC, dI)) (ci := 10) (v := .int 8) (C := RX9) (T := TX9) (N := 2) hx hb hws inlX9 hown hK hP 0 rfl rfl 1 (by decide) (hws _ m_3_16) (fun _ h9 => h9) rfl dX9_put_24 ?_
  refine lv_iload_n hx hb dX9_put_27 rfl (lv_at hl 2 rfl) ?_
  refine lv_iload_n hx hb dX9_put_28 rfl (lv_at hl 0 rfl) ?_
  refine lv_iushr hx hb dX9_put_29 rfl ?_
  refine lv_topi (fun x_3 _ => ?_)
  refine lv_sipush (v := 255) hx hb dX9_put_30 (by decide) ?_
  refine lv_iand hx hb dX9_put_33 ?_
  refine va_iastG hx hb hK hP hD hS 1 0 rfl rfl (vin_c (by decide)) dX9_put_34 (fun f_4 H locs hP hD hS => ?_)
  have hP : va_P (dC, dI) vwCl [(h0, .inr (10, [.ref h1, .int 8])), (h1, .inl (k0, 420, .inl f_4))] H := hP
  have hD : va_D A [(h0, .inr (10, [.ref h1, .int 8])), (h1, .inl (k0, 420, .inl f_4))] := hD
  refine lv_aload_n hx hb dX9_put_35 rfl (lv_at hl 1 rfl) ?_
  refine lv_dup hx hb dX9_put_36 rfl ?_
  refine va_get (D := (dC, dI)) (ci := 10) (v := .int 8) (C := RX9) (T := TX9) (N := 2) hx hb hws inlX9 hown hK hP 0 rfl rfl 1 (by decide) (hws _ m_3_16) (fun _ h9 => h9) rfl dX9_put_37 ?_
  refine lv_iconst (v := 1) hx hb dX9_put_40 (by decide) ?_
  refine lv_iadd hx hb dX9_put_41 ?_
  refine lv_topi (fun x_5 ex_5 => ?_)
  obtain rfl : x_5 = 9 := ex_5.trans (by decide)
  refine va_put (D := (dC, dI)) (ci := 10) (v := .int 9) (ty := .int) (C := RX9) (T := TX9) (N := 2) hx hb hws inlX9 tyX9 tyX9_ok nmX9 hown hK hP hD hS 0 rfl rfl 1 (by decide) (hws _ m_3_16) (fun _ h9 => h9) rfl (by decide +kernel) rfl rfl (Nat.le_of_ble_eq_true rfl) dX9_put_42 (fun H locs hP hD hS => ?_)
  have hP : va_P (dC, dI) vwCl [(h0, .inr (10, [.ref h1, .int 9])), (h1, .inl (k0, 420, .inl f_4))] H := hP
  have hD : va_D A [(h0, .inr (10, [.ref h1, .int 9])), (h1, .inl (k0, 420, .inl f_4))] := hD
  refine lv_iinc (v := 16) (lv' := [(2, .int 16), (0, .ref h0), (1, .int p0)]) hx hb dX9_put_45 hl (k := 0) rfl (by decide) (by decide) rfl (fun ls hl => ?_)
  refine lv_goto (tgt := 3) hx hb dX9_put_48 (by decide) ?_
  refine lv_iload_n hx hb dX9_put_3 rfl (lv_at hl 0 rfl) ?_
  refine lv_if_lt (tgt := 51) hx hb dX9_put_4 (by decide) (fun c_6 => absurd c_6 (by decide)) (fun _ => ?_)
  refine lv_aload_n hx hb dX9_put_7 rfl (lv_at hl 1 rfl) ?_
  refine va_get (D := (dC, dI)) (ci := 10) (v := .int 9) (C := RX9) (T := TX9) (N := 2) hx hb hws inlX9 hown hK hP 0 rfl rfl 1 (by decide) (hws _ m_3_16) (fun _ h9 => h9) rfl dX9_put_8 ?_
  refine lv_aload_n hx hb dX9_put_11 rfl (lv_at hl 1 rfl) ?_
  refine va_get (D := (dC, dI)) (ci := 10) (v := .ref h1) (C := RX9) (T := TX9) (N := 2) hx hb hws inlX9 hown hK hP 0 rfl rfl 0 (by decide) (hws _ m_3_15) (fun _ h9 => h9) rfl dX9_put_12 ?_
  refine va_alen hx hb hK hP 1 0 rfl rfl (v := 420) rfl dX9_put_15 ?_
  refine lv_icmp_ge (tgt := 51) hx hb dX9_put_16 (by decide) (fun c_7 => absurd c_7 (by decide)) (fun _ => ?_)
  refine lv_aload_n hx hb dX9_put_19 rfl (lv_at hl 1 rfl) ?_
  refine va_get (D := (dC, dI)) (ci := 10) (v := .ref h1) (C := RX9) (T := TX9) (N := 2) hx hb hws inlX9 hown hK hP 0 rfl rfl 0 (by decide) (hws _ m_3_15) (fun _ h9 => h9) rfl dX9_put_20 ?_
  refine lv_aload_n hx hb dX9_put_23 rfl (lv_at hl 1 rfl) ?_
  refine va_get (D := (dC, dI)) (ci := 10) (v := .int 9) (C := RX9) (T := TX9) (N := 2) hx hb hws inlX9 hown hK hP 0 rfl rfl 1 (by decide) (hws _ m_3_16) (fun _ h9 => h9) rfl dX9_put_24 ?_
  refine lv_iload_n hx hb dX9_put_27 rfl (lv_at hl 2 rfl) ?_
  refine lv_iload_n hx hb dX9_put_28 rfl (lv_at hl 0 rfl) ?_
  refine lv_iushr hx hb dX9_put_29 rfl ?_
  refine lv_topi (fun x_8 _ => ?_)
  refine lv_sipush (v := 255) hx hb dX9_put_30 (by decide) ?_
  refine lv_iand hx hb dX9_put_33 ?_
  refine va_iastG hx hb hK hP hD hS 1 0 rfl rfl (vin_c (by decide)) dX9_put_34 (fun f_9 H locs hP hD hS => ?_)
  have hP : va_P (dC, dI) vwCl [(h0, .inr (10, [.ref h1, .int 9])), (h1, .inl (k0, 420, .inl f_9))] H := hP
  have hD : va_D A [(h0, .inr (10, [.ref h1, .int 9])), (h1, .inl (k0, 420, .inl f_9))] := hD
  refine lv_aload_n hx hb dX9_put_35 rfl (lv_at hl 1 rfl) ?_
  refine lv_dup hx hb dX9_put_36 rfl ?_
  refine va_get (D := (dC, dI)) (ci := 10) (v := .int 9) (C := RX9) (T := TX9) (N := 2) hx hb hws inlX9 hown hK hP 0 rfl rfl 1 (by decide) (hws _ m_3_16) (fun _ h9 => h9) rfl dX9_put_37 ?_
  refine lv_iconst (v := 1) hx hb dX9_put_40 (by decide) ?_
  refine lv_iadd hx hb dX9_put_41 ?_
  refine lv_topi (fun x_10 ex_10 => ?_)
  obtain rfl : x_10 = 10 := ex_10.trans (by decide)
  refine va_put (D := (dC, dI)) (ci := 10) (v := .int 10) (ty := .int) (C := RX9) (T := TX9) (N := 2) hx hb hws inlX9 tyX9 tyX9_ok nmX9 hown hK hP hD hS 0 rfl rfl 1 (by decide) (hws _ m_3_16) (fun _ h9 => h9) rfl (by decide +kernel) rfl rfl (Nat.le_of_ble_eq_true rfl) dX9_put_42 (fun H locs hP hD hS => ?_)
  have hP : va_P (dC, dI) vwCl [(h0, .inr (10, [.ref h1, .int 10])), (h1, .inl (k0, 420, .inl f_9))] H := hP
  have hD : va_D A [(h0, .inr (10, [.ref h1, .int 10])), (h1, .inl (k0, 420, .inl f_9))] := hD
  refine lv_iinc (v := 8) (lv' := [(2, .int 8), (0, .ref h0), (1, .int p0)]) hx hb dX9_put_45 hl (k := 0) rfl (by decide) (by decide) rfl (fun ls hl => ?_)
  refine lv_goto (tgt := 3) hx hb dX9_put_48 (by decide) ?_
  refine lv_iload_n hx hb dX9_put_3 rfl (lv_at hl 0 rfl) ?_
  refine lv_if_lt (tgt := 51) hx hb dX9_put_4 (by decide) (fun c_11 => absurd c_11 (by decide)) (fun _ => ?_)
  refine lv_aload_n hx hb dX9_put_7 rfl (lv_at hl 1 rfl) ?_
  refine va_get (D := (dC, dI)) (ci := 10) (v := .int 10) (C := RX9) (T := TX9) (N := 2) hx hb hws inlX9 hown hK hP 0 rfl rfl 1 (by decide) (hws _ m_3_16) (fun _ h9 => h9) rfl dX9_put_8 ?_
  refine lv_aload_n hx hb dX9_put_11 rfl (lv_at hl 1 rfl) ?_
  refine va_get (D := (dC, dI)) (ci := 10) (v := .ref h1) (C := RX9) (T := TX9) (N := 2) hx hb hws inlX9 hown hK hP 0 rfl rfl 0 (by decide) (hws _ m_3_15) (fun _ h9 => h9) rfl dX9_put_12 ?_
  refine va_alen hx hb hK hP 1 0 rfl rfl (v := 420) rfl dX9_put_15 ?_
  refine lv_icmp_ge (tgt := 51) hx hb dX9_put_16 (by decide) (fun c_12 => absurd c_12 (by decide)) (fun _ => ?_)
  refine lv_aload_n hx hb dX9_put_19 rfl (lv_at hl 1 rfl) ?_
  refine va_get (D := (dC, dI)) (ci := 10) (v := .ref h1) (C := RX9) (T := TX9) (N := 2) hx hb hws inlX9 hown hK hP 0 rfl rfl 0 (by decide) (hws _ m_3_15) (fun _ h9 => h9) rfl dX9_put_20 ?_
  refine lv_aload_n hx hb dX9_put_23 rfl (lv_at hl 1 rfl) ?_
  refine va_get (D := (dC, dI)) (ci := 10) (v := .int 10) (C := RX9) (T := TX9) (N := 2) hx hb hws inlX9 hown hK hP 0 rfl rfl 1 (by decide) (hws _ m_3_16) (fun _ h9 => h9) rfl dX9_put_24 ?_
  refine lv_iload_n hx hb dX9_put_27 rfl (lv_at hl 2 rfl) ?_
  refine lv_iload_n hx hb dX9_put_28 rfl (lv_at hl 0 rfl) ?_
  refine lv_iushr hx hb dX9_put_29 rfl ?_
  refine lv_topi (fun x_13 _ => ?_)
  refine lv_sipush (v := 255) hx hb dX9_put_30 (by decide) ?_
  refine lv_iand hx hb dX9_put_33 ?_
  refine va_iastG hx hb hK hP hD hS 1 0 rfl rfl (vin_c (by decide)) dX9_put_34 (fun f_14 H locs hP hD hS => ?_)
  have hP : va_P (dC, dI) vwCl [(h0, .inr (10, [.ref h1, .int 10])), (h1, .inl (k0, 420, .inl f_14))] H := hP
  have hD : va_D A [(h0, .inr (10, [.ref h1, .int 10])), (h1, .inl (k0, 420, .inl f_14))] := hD
  refine lv_aload_n hx hb dX9_put_35 rfl (lv_at hl 1 rfl) ?_
  refine lv_dup hx hb dX9_put_36 rfl ?_
  refine va_get (D := (dC, dI)) (ci := 10) (v := .int 10) (C := RX9) (T := TX9) (N := 2) hx hb hws inlX9 hown hK hP 0 rfl rfl 1 (by decide) (hws _ m_3_16) (fun _ h9 => h9) rfl dX9_put_37 ?_
  refine lv_iconst (v := 1) hx hb dX9_put_40 (by decide) ?_
  refine lv_iadd hx hb dX9_put_41 ?_
  refine lv_topi (fun x_15 ex_15 => ?_)
  obtain rfl : x_15 = 11 := ex_15.trans (by decide)
  refine va_put (D := (dC, dI)) (ci := 10) (v := .int 11) (ty := .int) (C := RX9) (T := TX9) (N := 2) hx hb hws inlX9 tyX9 tyX9_ok nmX9 hown hK hP hD hS 0 rfl rfl 1 (by decide) (hws _ m_3_16) (fun _ h9 => h9) rfl (by decide +kernel) rfl rfl (Nat.le_of_ble_eq_true rfl) dX9_put_42 (fun H locs hP hD hS => ?_)
  have hP : va_P (dC, dI) vwCl [(h0, .inr (10, [.ref h1, .int 11])), (h1, .inl (k0, 420, .inl f_14))] H := hP
  have hD : va_D A [(h0, .inr (10, [.ref h1, .int 11])), (h1, .inl (k0, 420, .inl f_14))] := hD
  refine lv_iinc (v := 0) (lv' := [(2, .int 0), (0, .ref h0), (1, .int p0)]) hx hb dX9_put_45 hl (k := 0) rfl (by decide) (by decide) rfl (fun ls hl => ?_)
  refine lv_goto (tgt := 3) hx hb dX9_put_48 (by decide) ?_
  refine lv_iload_n hx hb dX9_put_3 rfl (lv_at hl 0 rfl) ?_
  refine lv_if_lt (tgt := 51) hx hb dX9_put_4 (by decide) (fun c_16 => absurd c_16 (by decide)) (fun _ => ?_)
  refine lv_aload_n hx hb dX9_put_7 rfl (lv_at hl 1 rfl) ?_
  refine va_get (D := (dC, dI)) (ci := 10) (v := .int 11) (C := RX9) (T := TX9) (N := 2) hx hb hws inlX9 hown hK hP 0 rfl rfl 1 (by decide) (hws _ m_3_16) (fun _ h9 => h9) rfl dX9_put_8 ?_
  refine lv_aload_n hx hb dX9_put_11 rfl (lv_at hl 1 rfl) ?_
  refine va_get (D := (dC, dI)) (ci := 10) (v := .ref h1) (C := RX9) (T := TX9) (N := 2) hx hb hws inlX9 hown hK hP 0 rfl rfl 0 (by decide) (hws _ m_3_15) (fun _ h9 => h9) rfl dX9_put_12 ?_
  refine va_alen hx hb hK hP 1 0 rfl rfl (v := 420) rfl dX9_put_15 ?_
  refine lv_icmp_ge (tgt := 51) hx hb dX9_put_16 (by decide) (fun c_17 => absurd c_17 (by decide)) (fun _ => ?_)
  refine lv_aload_n hx hb dX9_put_19 rfl (lv_at hl 1 rfl) ?_
  refine va_get (D := (dC, dI)) (ci := 10) (v := .ref h1) (C := RX9) (T := TX9) (N := 2) hx hb hws inlX9 hown hK hP 0 rfl rfl 0 (by decide) (hws _ m_3_15) (fun _ h9 => h9) rfl dX9_put_20 ?_
  refine lv_aload_n hx hb dX9_put_23 rfl (lv_at hl 1 rfl) ?_
  refine va_get (D := (dC, dI)) (ci := 10) (v := .int 11) (C := RX9) (T := TX9) (N := 2) hx hb hws inlX9 hown hK hP 0 rfl rfl 1 (by decide) (hws _ m_3_16) (fun _ h9 => h9) rfl dX9_put_24 ?_
  refine lv_iload_n hx hb dX9_put_27 rfl (lv_at hl 2 rfl) ?_
  refine lv_iload_n hx hb dX9_put_28 rfl (lv_at hl 0 rfl) ?_
  refine lv_iushr hx hb dX9_put_29 rfl ?_
  refine lv_topi (fun x_18 _ => ?_)
  refine lv_sipush (v := 255) hx hb dX9_put_30 (by decide) ?_
  refine lv_iand hx hb dX9_put_33 ?_
  refine va_iastG hx hb hK hP hD hS 1 0 rfl rfl (vin_c (by decide)) dX9_put_34 (fun f_19 H locs hP hD hS => ?_)
  have hP : va_P (dC, dI) vwCl [(h0, .inr (10, [.ref h1, .int 11])), (h1, .inl (k0, 420, .inl f_19))] H := hP
  have hD : va_D A [(h0, .inr (10, [.ref h1, .int 11])), (h1, .inl (k0, 420, .inl f_19))] := hD
  refine lv_aload_n hx hb dX9_put_35 rfl (lv_at hl 1 rfl) ?_
  refine lv_dup hx hb dX9_put_36 rfl ?_
  refine va_get (D := (dC, dI)) (ci := 10) (v := .int 11) (C := RX9) (T := TX9) (N := 2) hx hb hws inlX9 hown hK hP 0 rfl rfl 1 (by decide) (hws _ m_3_16) (fun _ h9 => h9) rfl dX9_put_37 ?_
  refine lv_iconst (v := 1) hx hb dX9_put_40 (by decide) ?_
  refine lv_iadd hx hb dX9_put_41 ?_
  refine lv_topi (fun x_20 ex_20 => ?_)
  obtain rfl : x_20 = 12 := ex_20.trans (by decide)
  refine va_put (D := (dC, dI)) (ci := 10) (v := .int 12) (ty := .int) (C := RX9) (T := TX9) (N := 2) hx hb hws inlX9 tyX9 tyX9_ok nmX9 hown hK hP hD hS 0 rfl rfl 1 (by decide) (hws _ m_3_16) (fun _ h9 => h9) rfl (by decide +kernel) rfl rfl (Nat.le_of_ble_eq_true rfl) dX9_put_42 (fun H locs hP hD hS => ?_)
  have hP : va_P (dC, dI) vwCl [(h0, .inr (10, [.ref h1, .int 12])), (h1, .inl (k0, 420, .inl f_19))] H := hP
  have hD : va_D A [(h0, .inr (10, [.ref h1, .int 12])), (h1, .inl (k0, 420, .inl f_19))] := hD
  refine lv_iinc (v := (-8)) (lv' := [(2, .int (-8)), (0, .ref h0), (1, .int p0)]) hx hb dX9_put_45 hl (k := 0) rfl (by decide) (by decide) rfl (fun ls hl => ?_)
  refine lv_goto (tgt := 3) hx hb dX9_put_48 (by decide) ?_
  refine lv_iload_n hx hb dX9_put_3 rfl (lv_at hl 0 rfl) ?_
  refine lv_if_lt (tgt := 51) hx hb dX9_put_4 (by decide) (fun _ => ?_) (fun c_21 => absurd (by decide) c_21)
  have hK9 := hK.sub (tys' := [(k0, .int)]) [0] rfl
  exact W.vret hx hb hr (fun t ht hW => ⟨⟨(), rfl, trivial, ⟨(fun k9 => ([] : List (Nat)).getD k9 0), (fun k9 => ([] : List ClassId).getD k9 default), (fun k9 => ([f_19] : List (Nat → Int32)).getD k9 (fun _ => 0)), (fun k9 => ([] : List (Int32)).getD k9 0), (fun k9 => ([] : List (Nat → Nat)).getD k9 (fun _ => 0)), by rw [ht]; exact hP, va_K.moved hW.alike hK9, hD⟩⟩, hS.F ht⟩) hS.2.2 dX9_put_51

set_option maxHeartbeats 4000000 in
set_option maxRecDepth 100000 in
theorem c_X9_put_v4 (l : Launch) (dC : Nat → ClassId) (dI : Nat → Nat → Nat) (h0 : Nat) (p0 : Int32) (h1 : Nat) (k0 : ClassId) (f0 : Nat → Int32) (sz : Nat) : Met l yX9_put (Cond.code yX9_put cX9_put 3 none :: wsL_law) ({ frames := 0, cells := 0, slots := 0, locals := 0 }) (va_Pc [.ref h0, .int p0] (fun U => U.heap.size = sz ∧ va_P (dC, dI) vwCl [(h0, .inr (10, [.ref h1, .int 12])), (h1, .inl (k0, 420, .inl f0))] U.heap ∧ va_K (dC, dI) vwCl [(k0, .int)] U ∧ va_D (fun _ => True) [(h0, .inr (10, [.ref h1, .int 12])), (h1, .inl (k0, 420, .inl f0))])) (va_Qv (fun (_ : Unit) => True) (fun (_ : Unit) (t : State) => ∃ (qa : Nat → Nat) (qc : Nat → ClassId) (qg : Nat → Nat → Int32) (qz : Nat → Int32) (qr : Nat → Nat → Nat), va_P (dC, dI) vwCl [(h0, .inr (10, [.ref h1, .int 16])), (h1, .inl (k0, 420, .inl (qg 0)))] t.heap ∧ va_K (dC, dI) vwCl [(k0, .int)] t ∧ va_D (va_A [(h0, .inr (10, [.ref h1, .int 12])), (h1, .inl (k0, 420, .inl f0))] sz) [(h0, .inr (10, [.ref h1, .int 16])), (h1, .inl (k0, 420, .inl (qg 0)))]) (va_A [(h0, .inr (10, [.ref h1, .int 12])), (h1, .inl (k0, 420, .inl f0))] sz)) 0 0 (va_A [(h0, .inr (10, [.ref h1, .int 12])), (h1, .inl (k0, 420, .inl f0))] sz) := by
  refine Met.ofW (cc := cX9_put) (maxL := 3) (ret := none) (by decide) rfl ?_
  intro p e s m args below meth c s₁ B hml hv
  obtain ⟨rfl, hsz, hP, hK, hD0⟩ := hv
  have hx := B.exec
  have hb := B.bytes
  have hr := B.returns
  have hts := atoms_spec (ws := Cond.code yX9_put cX9_put 3 none :: wsL_law) B.pre
  have hws : ∀ w ∈ wsL_law, w.before _ s = true := fun w h => hts w (List.mem_cons_of_mem _ h)
  have hown : s.vm.findClass RX9 = some m.cls := findClass_of_methodNamed B.named
  have hlocks := B.notSynchronized
  subst hsz
  have hD := hD0.self (sz := s.heap.size)
  generalize hAe : va_A [(h0, .inr (10, [.ref h1, .int 12])), (h1, .inl (k0, 420, .inl f0))] s.heap.size = A at hD ⊢
  have hA : ∀ q : Nat, s.heap.size ≤ q → A q := fun q h => by rw [← hAe]; exact Or.inr h
  have hS : va_S A s.heap s.heap [] := va_S.rf
  have hP : va_P (dC, dI) vwCl [(h0, .inr (10, [.ref h1, .int 12])), (h1, .inl (k0, 420, .inl f0))] s.heap := hP
  have hl := lv_entry ([.ref h0, .int p0]) (n := 3) (Nat.le_of_ble_eq_true rfl)
  rw [lg_entry_eq]
  generalize (lg_sl ([.ref h0, .int p0]) ++ List.replicate (3 - (lg_sl ([.ref h0, .int p0])).length) Slot.unset).toArray = ls at hl ⊢
  have hl : lv_has ls 3 [(0, .ref h0), (1, .int p0)] := hl
  refine lv_bipush (v := 24) hx hb dX9_put_0 (by decide) ?_
  refine lv_istore_n (lv' := [(2, .int 24), (0, .ref h0), (1, .int p0)]) hx hb dX9_put_2 rfl hl (by decide) rfl (fun ls hl => ?_)
  refine lv_iload_n hx hb dX9_put_3 rfl (lv_at hl 0 rfl) ?_
  refine lv_if_lt (tgt := 51) hx hb dX9_put_4 (by decide) (fun c_1 => absurd c_1 (by decide)) (fun _ => ?_)
  refine lv_aload_n hx hb dX9_put_7 rfl (lv_at hl 1 rfl) ?_
  refine va_get (D := (dC, dI)) (ci := 10) (v := .int 12) (C := RX9) (T := TX9) (N := 2) hx hb hws inlX9 hown hK hP 0 rfl rfl 1 (by decide) (hws _ m_3_16) (fun _ h9 => h9) rfl dX9_put_8 ?_
  refine lv_aload_n hx hb dX9_put_11 rfl (lv_at hl 1 rfl) ?_
  refine va_get (D := (dC, dI)) (ci := 10) (v := .ref h1) (C := RX9) (T := TX9) (N := 2) hx hb hws inlX9 hown hK hP 0 rfl rfl 0 (by decide) (hws _ m_3_15) (fun _ h9 => h9) rfl dX9_put_12 ?_
  refine va_alen hx hb hK hP 1 0 rfl rfl (v := 420) rfl dX9_put_15 ?_
  refine lv_icmp_ge (tgt := 51) hx hb dX9_put_16 (by decide) (fun c_2 => absurd c_2 (by decide)) (fun _ => ?_)
  refine lv_aload_n hx hb dX9_put_19 rfl (lv_at hl 1 rfl) ?_
  refine va_get (D := (dC, dI)) (ci := 10) (v := .ref h1) (C := RX9) (T := TX9) (N := 2) hx hb hws inlX9 hown hK hP 0 rfl rfl 0 (by decide) (hws _ m_3_15) (fun _ h9 => h9) rfl dX9_put_20 ?_
  refine lv_aload_n hx hb dX9_put_23 rfl (lv_at hl 1 rfl) ?_
  refine va_get (D := (dC, dI)) (ci := 10) (v := .int 12) (C := RX9) (T := TX9) (N := 2) hx hb hws inlX9 hown hK hP 0 rfl rfl 1 (by decide) (hws _ m_3_16) (fun _ h9 => h9) rfl dX9_put_24 ?_
  refine lv_iload_n hx hb dX9_put_27 rfl (lv_at hl 2 rfl) ?_
  refine lv_iload_n hx hb dX9_put_28 rfl (lv_at hl 0 rfl) ?_
  refine lv_iushr hx hb dX9_put_29 rfl ?_
  refine lv_topi (fun x_3 _ => ?_)
  refine lv_sipush (v := 255) hx hb dX9_put_30 (by decide) ?_
  refine lv_iand hx hb dX9_put_33 ?_
  refine va_iastG hx hb hK hP hD hS 1 0 rfl rfl (vin_c (by decide)) dX9_put_34 (fun f_4 H locs hP hD hS => ?_)
  have hP : va_P (dC, dI) vwCl [(h0, .inr (10, [.ref h1, .int 12])), (h1, .inl (k0, 420, .inl f_4))] H := hP
  have hD : va_D A [(h0, .inr (10, [.ref h1, .int 12])), (h1, .inl (k0, 420, .inl f_4))] := hD
  refine lv_aload_n hx hb dX9_put_35 rfl (lv_at hl 1 rfl) ?_
  refine lv_dup hx hb dX9_put_36 rfl ?_
  refine va_get (D := (dC, dI)) (ci := 10) (v := .int 12) (C := RX9) (T := TX9) (N := 2) hx hb hws inlX9 hown hK hP 0 rfl rfl 1 (by decide) (hws _ m_3_16) (fun _ h9 => h9) rfl dX9_put_37 ?_
  refine lv_iconst (v := 1) hx hb dX9_put_40 (by decide) ?_
  refine lv_iadd hx hb dX9_put_41 ?_
  refine lv_topi (fun x_5 ex_5 => ?_)
  obtain rfl : x_5 = 13 := ex_5.trans (by decide)
  refine va_put (D := (dC, dI)) (ci := 10) (v := .int 13) (ty := .int) (C := RX9) (T := TX9) (N := 2) hx hb hws inlX9 tyX9 tyX9_ok nmX9 hown hK hP hD hS 0 rfl rfl 1 (by decide) (hws _ m_3_16) (fun _ h9 => h9) rfl (by decide +kernel) rfl rfl (Nat.le_of_ble_eq_true rfl) dX9_put_42 (fun H locs hP hD hS => ?_)
  have hP : va_P (dC, dI) vwCl [(h0, .inr (10, [.ref h1, .int 13])), (h1, .inl (k0, 420, .inl f_4))] H := hP
  have hD : va_D A [(h0, .inr (10, [.ref h1, .int 13])), (h1, .inl (k0, 420, .inl f_4))] := hD
  refine lv_iinc (v := 16) (lv' := [(2, .int 16), (0, .ref h0), (1, .int p0)]) hx hb dX9_put_45 hl (k := 0) rfl (by decide) (by decide) rfl (fun ls hl => ?_)
  refine lv_goto (tgt := 3) hx hb dX9_put_48 (by decide) ?_
  refine lv_iload_n hx hb dX9_put_3 rfl (lv_at hl 0 rfl) ?_
  refine lv_if_lt (tgt := 51) hx hb dX9_put_4 (by decide) (fun c_6 => absurd c_6 (by decide)) (fun _ => ?_)
  refine lv_aload_n hx hb dX9_put_7 rfl (lv_at hl 1 rfl) ?_
  refine va_get (D := (dC, dI)) (ci := 10) (v := .int 13) (C := RX9) (T := TX9) (N := 2) hx hb hws inlX9 hown hK hP 0 rfl rfl 1 (by decide) (hws _ m_3_16) (fun _ h9 => h9) rfl dX9_put_8 ?_
  refine lv_aload_n hx hb dX9_put_11 rfl (lv_at hl 1 rfl) ?_
  refine va_get (D := (dC, dI)) (ci := 10) (v := .ref h1) (C := RX9) (T := TX9) (N := 2) hx hb hws inlX9 hown hK hP 0 rfl rfl 0 (by decide) (hws _ m_3_15) (fun _ h9 => h9) rfl dX9_put_12 ?_
  refine va_alen hx hb hK hP 1 0 rfl rfl (v := 420) rfl dX9_put_15 ?_
  refine lv_icmp_ge (tgt := 51) hx hb dX9_put_16 (by decide) (fun c_7 => absurd c_7 (by decide)) (fun _ => ?_)
  refine lv_aload_n hx hb dX9_put_19 rfl (lv_at hl 1 rfl) ?_
  refine va_get (D := (dC, dI)) (ci := 10) (v := .ref h1) (C := RX9) (T := TX9) (N := 2) hx hb hws inlX9 hown hK hP 0 rfl rfl 0 (by decide) (hws _ m_3_15) (fun _ h9 => h9) rfl dX9_put_20 ?_
  refine lv_aload_n hx hb dX9_put_23 rfl (lv_at hl 1 rfl) ?_
  refine va_get (D := (dC, dI)) (ci := 10) (v := .int 13) (C := RX9) (T := TX9) (N := 2) hx hb hws inlX9 hown hK hP 0 rfl rfl 1 (by decide) (hws _ m_3_16) (fun _ h9 => h9) rfl dX9_put_24 ?_
  refine lv_iload_n hx hb dX9_put_27 rfl (lv_at hl 2 rfl) ?_
  refine lv_iload_n hx hb dX9_put_28 rfl (lv_at hl 0 rfl) ?_
  refine lv_iushr hx hb dX9_put_29 rfl ?_
  refine lv_topi (fun x_8 _ => ?_)
  refine lv_sipush (v := 255) hx hb dX9_put_30 (by decide) ?_
  refine lv_iand hx hb dX9_put_33 ?_
  refine va_iastG hx hb hK hP hD hS 1 0 rfl rfl (vin_c (by decide)) dX9_put_34 (fun f_9 H locs hP hD hS => ?_)
  have hP : va_P (dC, dI) vwCl [(h0, .inr (10, [.ref h1, .int 13])), (h1, .inl (k0, 420, .inl f_9))] H := hP
  have hD : va_D A [(h0, .inr (10, [.ref h1, .int 13])), (h1, .inl (k0, 420, .inl f_9))] := hD
  refine lv_aload_n hx hb dX9_put_35 rfl (lv_at hl 1 rfl) ?_
  refine lv_dup hx hb dX9_put_36 rfl ?_
  refine va_get (D := (dC, dI)) (ci := 10) (v := .int 13) (C := RX9) (T := TX9) (N := 2) hx hb hws inlX9 hown hK hP 0 rfl rfl 1 (by decide) (hws _ m_3_16) (fun _ h9 => h9) rfl dX9_put_37 ?_
  refine lv_iconst (v := 1) hx hb dX9_put_40 (by decide) ?_
  refine lv_iadd hx hb dX9_put_41 ?_
  refine lv_topi (fun x_10 ex_10 => ?_)
  obtain rfl : x_10 = 14 := ex_10.trans (by decide)
  refine va_put (D := (dC, dI)) (ci := 10) (v := .int 14) (ty := .int) (C := RX9) (T := TX9) (N := 2) hx hb hws inlX9 tyX9 tyX9_ok nmX9 hown hK hP hD hS 0 rfl rfl 1 (by decide) (hws _ m_3_16) (fun _ h9 => h9) rfl (by decide +kernel) rfl rfl (Nat.le_of_ble_eq_true rfl) dX9_put_42 (fun H locs hP hD hS => ?_)
  have hP : va_P (dC, dI) vwCl [(h0, .inr (10, [.ref h1, .int 14])), (h1, .inl (k0, 420, .inl f_9))] H := hP
  have hD : va_D A [(h0, .inr (10, [.ref h1, .int 14])), (h1, .inl (k0, 420, .inl f_9))] := hD
  refine lv_iinc (v := 8) (lv' := [(2, .int 8), (0, .ref h0), (1, .int p0)]) hx hb dX9_put_45 hl (k := 0) rfl (by decide) (by decide) rfl (fun ls hl => ?_)
  refine lv_goto (tgt := 3) hx hb dX9_put_48 (by decide) ?_
  refine lv_iload_n hx hb dX9_put_3 rfl (lv_at hl 0 rfl) ?_
  refine lv_if_lt (tgt := 51) hx hb dX9_put_4 (by decide) (fun c_11 => absurd c_11 (by decide)) (fun _ => ?_)
  refine lv_aload_n hx hb dX9_put_7 rfl (lv_at hl 1 rfl) ?_
  refine va_get (D := (dC, dI)) (ci := 10) (v := .int 14) (C := RX9) (T := TX9) (N := 2) hx hb hws inlX9 hown hK hP 0 rfl rfl 1 (by decide) (hws _ m_3_16) (fun _ h9 => h9) rfl dX9_put_8 ?_
  refine lv_aload_n hx hb dX9_put_11 rfl (lv_at hl 1 rfl) ?_
  refine va_get (D := (dC, dI)) (ci := 10) (v := .ref h1) (C := RX9) (T := TX9) (N := 2) hx hb hws inlX9 hown hK hP 0 rfl rfl 0 (by decide) (hws _ m_3_15) (fun _ h9 => h9) rfl dX9_put_12 ?_
  refine va_alen hx hb hK hP 1 0 rfl rfl (v := 420) rfl dX9_put_15 ?_
  refine lv_icmp_ge (tgt := 51) hx hb dX9_put_16 (by decide) (fun c_12 => absurd c_12 (by decide)) (fun _ => ?_)
  refine lv_aload_n hx hb dX9_put_19 rfl (lv_at hl 1 rfl) ?_
  refine va_get (D := (dC, dI)) (ci := 10) (v := .ref h1) (C := RX9) (T := TX9) (N := 2) hx hb hws inlX9 hown hK hP 0 rfl rfl 0 (by decide) (hws _ m_3_15) (fun _ h9 => h9) rfl dX9_put_20 ?_
  refine lv_aload_n hx hb dX9_put_23 rfl (lv_at hl 1 rfl) ?_
  refine va_get (D := (dC, dI)) (ci := 10) (v := .int 14) (C := RX9) (T := TX9) (N := 2) hx hb hws inlX9 hown hK hP 0 rfl rfl 1 (by decide) (hws _ m_3_16) (fun _ h9 => h9) rfl dX9_put_24 ?_
  refine lv_iload_n hx hb dX9_put_27 rfl (lv_at hl 2 rfl) ?_
  refine lv_iload_n hx hb dX9_put_28 rfl (lv_at hl 0 rfl) ?_
  refine lv_iushr hx hb dX9_put_29 rfl ?_
  refine lv_topi (fun x_13 _ => ?_)
  refine lv_sipush (v := 255) hx hb dX9_put_30 (by decide) ?_
  refine lv_iand hx hb dX9_put_33 ?_
  refine va_iastG hx hb hK hP hD hS 1 0 rfl rfl (vin_c (by decide)) dX9_put_34 (fun f_14 H locs hP hD hS => ?_)
  have hP : va_P (dC, dI) vwCl [(h0, .inr (10, [.ref h1, .int 14])), (h1, .inl (k0, 420, .inl f_14))] H := hP
  have hD : va_D A [(h0, .inr (10, [.ref h1, .int 14])), (h1, .inl (k0, 420, .inl f_14))] := hD
  refine lv_aload_n hx hb dX9_put_35 rfl (lv_at hl 1 rfl) ?_
  refine lv_dup hx hb dX9_put_36 rfl ?_
  refine va_get (D := (dC, dI)) (ci := 10) (v := .int 14) (C := RX9) (T := TX9) (N := 2) hx hb hws inlX9 hown hK hP 0 rfl rfl 1 (by decide) (hws _ m_3_16) (fun _ h9 => h9) rfl dX9_put_37 ?_
  refine lv_iconst (v := 1) hx hb dX9_put_40 (by decide) ?_
  refine lv_iadd hx hb dX9_put_41 ?_
  refine lv_topi (fun x_15 ex_15 => ?_)
  obtain rfl : x_15 = 15 := ex_15.trans (by decide)
  refine va_put (D := (dC, dI)) (ci := 10) (v := .int 15) (ty := .int) (C := RX9) (T := TX9) (N := 2) hx hb hws inlX9 tyX9 tyX9_ok nmX9 hown hK hP hD hS 0 rfl rfl 1 (by decide) (hws _ m_3_16) (fun _ h9 => h9) rfl (by decide +kernel) rfl rfl (Nat.le_of_ble_eq_true rfl) dX9_put_42 (fun H locs hP hD hS => ?_)
  have hP : va_P (dC, dI) vwCl [(h0, .inr (10, [.ref h1, .int 15])), (h1, .inl (k0, 420, .inl f_14))] H := hP
  have hD : va_D A [(h0, .inr (10, [.ref h1, .int 15])), (h1, .inl (k0, 420, .inl f_14))] := hD
  refine lv_iinc (v := 0) (lv' := [(2, .int 0), (0, .ref h0), (1, .int p0)]) hx hb dX9_put_45 hl (k := 0) rfl (by decide) (by decide) rfl (fun ls hl => ?_)
  refine lv_goto (tgt := 3) hx hb dX9_put_48 (by decide) ?_
  refine lv_iload_n hx hb dX9_put_3 rfl (lv_at hl 0 rfl) ?_
  refine lv_if_lt (tgt := 51) hx hb dX9_put_4 (by decide) (fun c_16 => absurd c_16 (by decide)) (fun _ => ?_)
  refine lv_aload_n hx hb dX9_put_7 rfl (lv_at hl 1 rfl) ?_
  refine va_get (D := (dC, dI)) (ci := 10) (v := .int 15) (C := RX9) (T := TX9) (N := 2) hx hb hws inlX9 hown hK hP 0 rfl rfl 1 (by decide) (hws _ m_3_16) (fun _ h9 => h9) rfl dX9_put_8 ?_
  refine lv_aload_n hx hb dX9_put_11 rfl (lv_at hl 1 rfl) ?_
  refine va_get (D := (dC, dI)) (ci := 10) (v := .ref h1) (C := RX9) (T := TX9) (N := 2) hx hb hws inlX9 hown hK hP 0 rfl rfl 0 (by decide) (hws _ m_3_15) (fun _ h9 => h9) rfl dX9_put_12 ?_
  refine va_alen hx hb hK hP 1 0 rfl rfl (v := 420) rfl dX9_put_15 ?_
  refine lv_icmp_ge (tgt := 51) hx hb dX9_put_16 (by decide) (fun c_17 => absurd c_17 (by decide)) (fun _ => ?_)
  refine lv_aload_n hx hb dX9_put_19 rfl (lv_at hl 1 rfl) ?_
  refine va_get (D := (dC, dI)) (ci := 10) (v := .ref h1) (C := RX9) (T := TX9) (N := 2) hx hb hws inlX9 hown hK hP 0 rfl rfl 0 (by decide) (hws _ m_3_15) (fun _ h9 => h9) rfl dX9_put_20 ?_
  refine lv_aload_n hx hb dX9_put_23 rfl (lv_at hl 1 rfl) ?_
  refine va_get (D := (dC, dI)) (ci := 10) (v := .int 15) (C := RX9) (T := TX9) (N := 2) hx hb hws inlX9 hown hK hP 0 rfl rfl 1 (by decide) (hws _ m_3_16) (fun _ h9 => h9) rfl dX9_put_24 ?_
  refine lv_iload_n hx hb dX9_put_27 rfl (lv_at hl 2 rfl) ?_
  refine lv_iload_n hx hb dX9_put_28 rfl (lv_at hl 0 rfl) ?_
  refine lv_iushr hx hb dX9_put_29 rfl ?_
  refine lv_topi (fun x_18 _ => ?_)
  refine lv_sipush (v := 255) hx hb dX9_put_30 (by decide) ?_
  refine lv_iand hx hb dX9_put_33 ?_
  refine va_iastG hx hb hK hP hD hS 1 0 rfl rfl (vin_c (by decide)) dX9_put_34 (fun f_19 H locs hP hD hS => ?_)
  have hP : va_P (dC, dI) vwCl [(h0, .inr (10, [.ref h1, .int 15])), (h1, .inl (k0, 420, .inl f_19))] H := hP
  have hD : va_D A [(h0, .inr (10, [.ref h1, .int 15])), (h1, .inl (k0, 420, .inl f_19))] := hD
  refine lv_aload_n hx hb dX9_put_35 rfl (lv_at hl 1 rfl) ?_
  refine lv_dup hx hb dX9_put_36 rfl ?_
  refine va_get (D := (dC, dI)) (ci := 10) (v := .int 15) (C := RX9) (T := TX9) (N := 2) hx hb hws inlX9 hown hK hP 0 rfl rfl 1 (by decide) (hws _ m_3_16) (fun _ h9 => h9) rfl dX9_put_37 ?_
  refine lv_iconst (v := 1) hx hb dX9_put_40 (by decide) ?_
  refine lv_iadd hx hb dX9_put_41 ?_
  refine lv_topi (fun x_20 ex_20 => ?_)
  obtain rfl : x_20 = 16 := ex_20.trans (by decide)
  refine va_put (D := (dC, dI)) (ci := 10) (v := .int 16) (ty := .int) (C := RX9) (T := TX9) (N := 2) hx hb hws inlX9 tyX9 tyX9_ok nmX9 hown hK hP hD hS 0 rfl rfl 1 (by decide) (hws _ m_3_16) (fun _ h9 => h9) rfl (by decide +kernel) rfl rfl (Nat.le_of_ble_eq_true rfl) dX9_put_42 (fun H locs hP hD hS => ?_)
  have hP : va_P (dC, dI) vwCl [(h0, .inr (10, [.ref h1, .int 16])), (h1, .inl (k0, 420, .inl f_19))] H := hP
  have hD : va_D A [(h0, .inr (10, [.ref h1, .int 16])), (h1, .inl (k0, 420, .inl f_19))] := hD
  refine lv_iinc (v := (-8)) (lv' := [(2, .int (-8)), (0, .ref h0), (1, .int p0)]) hx hb dX9_put_45 hl (k := 0) rfl (by decide) (by decide) rfl (fun ls hl => ?_)
  refine lv_goto (tgt := 3) hx hb dX9_put_48 (by decide) ?_
  refine lv_iload_n hx hb dX9_put_3 rfl (lv_at hl 0 rfl) ?_
  refine lv_if_lt (tgt := 51) hx hb dX9_put_4 (by decide) (fun _ => ?_) (fun c_21 => absurd (by decide) c_21)
  have hK9 := hK.sub (tys' := [(k0, .int)]) [0] rfl
  exact W.vret hx hb hr (fun t ht hW => ⟨⟨(), rfl, trivial, ⟨(fun k9 => ([] : List (Nat)).getD k9 0), (fun k9 => ([] : List ClassId).getD k9 default), (fun k9 => ([f_19] : List (Nat → Int32)).getD k9 (fun _ => 0)), (fun k9 => ([] : List (Int32)).getD k9 0), (fun k9 => ([] : List (Nat → Nat)).getD k9 (fun _ => 0)), by rw [ht]; exact hP, va_K.moved hW.alike hK9, hD⟩⟩, hS.F ht⟩) hS.2.2 dX9_put_51

set_option maxHeartbeats 4000000 in
set_option maxRecDepth 100000 in
theorem c_X9_put_v5 (l : Launch) (dC : Nat → ClassId) (dI : Nat → Nat → Nat) (h0 : Nat) (p0 : Int32) (h1 : Nat) (k0 : ClassId) (f0 : Nat → Int32) (sz : Nat) : Met l yX9_put (Cond.code yX9_put cX9_put 3 none :: wsL_law) ({ frames := 0, cells := 0, slots := 0, locals := 0 }) (va_Pc [.ref h0, .int p0] (fun U => U.heap.size = sz ∧ va_P (dC, dI) vwCl [(h0, .inr (10, [.ref h1, .int 16])), (h1, .inl (k0, 420, .inl f0))] U.heap ∧ va_K (dC, dI) vwCl [(k0, .int)] U ∧ va_D (fun _ => True) [(h0, .inr (10, [.ref h1, .int 16])), (h1, .inl (k0, 420, .inl f0))])) (va_Qv (fun (_ : Unit) => True) (fun (_ : Unit) (t : State) => ∃ (qa : Nat → Nat) (qc : Nat → ClassId) (qg : Nat → Nat → Int32) (qz : Nat → Int32) (qr : Nat → Nat → Nat), va_P (dC, dI) vwCl [(h0, .inr (10, [.ref h1, .int 20])), (h1, .inl (k0, 420, .inl (qg 0)))] t.heap ∧ va_K (dC, dI) vwCl [(k0, .int)] t ∧ va_D (va_A [(h0, .inr (10, [.ref h1, .int 16])), (h1, .inl (k0, 420, .inl f0))] sz) [(h0, .inr (10, [.ref h1, .int 20])), (h1, .inl (k0, 420, .inl (qg 0)))]) (va_A [(h0, .inr (10, [.ref h1, .int 16])), (h1, .inl (k0, 420, .inl f0))] sz)) 0 0 (va_A [(h0, .inr (10, [.ref h1, .int 16])), (h1, .inl (k0, 420, .inl f0))] sz) := by
  refine Met.ofW (cc := cX9_put) (maxL := 3) (ret := none) (by decide) rfl ?_
  intro p e s m args below meth c s₁ B hml hv
  obtain ⟨rfl, hsz, hP, hK, hD0⟩ := hv
  have hx := B.exec
  have hb := B.bytes
  have hr := B.returns
  have hts := atoms_spec (ws := Cond.code yX9_put cX9_put 3 none :: wsL_law) B.pre
  have hws : ∀ w ∈ wsL_law, w.before _ s = true := fun w h => hts w (List.mem_cons_of_mem _ h)
  have hown : s.vm.findClass RX9 = some m.cls := findClass_of_methodNamed B.named
  have hlocks := B.notSynchronized
  subst hsz
  have hD := hD0.self (sz := s.heap.size)
  generalize hAe : va_A [(h0, .inr (10, [.ref h1, .int 16])), (h1, .inl (k0, 420, .inl f0))] s.heap.size = A at hD ⊢
  have hA : ∀ q : Nat, s.heap.size ≤ q → A q := fun q h => by rw [← hAe]; exact Or.inr h
  have hS : va_S A s.heap s.heap [] := va_S.rf
  have hP : va_P (dC, dI) vwCl [(h0, .inr (10, [.ref h1, .int 16])), (h1, .inl (k0, 420, .inl f0))] s.heap := hP
  have hl := lv_entry ([.ref h0, .int p0]) (n := 3) (Nat.le_of_ble_eq_true rfl)
  rw [lg_entry_eq]
  generalize (lg_sl ([.ref h0, .int p0]) ++ List.replicate (3 - (lg_sl ([.ref h0, .int p0])).length) Slot.unset).toArray = ls at hl ⊢
  have hl : lv_has ls 3 [(0, .ref h0), (1, .int p0)] := hl
  refine lv_bipush (v := 24) hx hb dX9_put_0 (by decide) ?_
  refine lv_istore_n (lv' := [(2, .int 24), (0, .ref h0), (1, .int p0)]) hx hb dX9_put_2 rfl hl (by decide) rfl (fun ls hl => ?_)
  refine lv_iload_n hx hb dX9_put_3 rfl (lv_at hl 0 rfl) ?_
  refine lv_if_lt (tgt := 51) hx hb dX9_put_4 (by decide) (fun c_1 => absurd c_1 (by decide)) (fun _ => ?_)
  refine lv_aload_n hx hb dX9_put_7 rfl (lv_at hl 1 rfl) ?_
  refine va_get (D := (dC, dI)) (ci := 10) (v := .int 16) (C := RX9) (T := TX9) (N := 2) hx hb hws inlX9 hown hK hP 0 rfl rfl 1 (by decide) (hws _ m_3_16) (fun _ h9 => h9) rfl dX9_put_8 ?_
  refine lv_aload_n hx hb dX9_put_11 rfl (lv_at hl 1 rfl) ?_
  refine va_get (D := (dC, dI)) (ci := 10) (v := .ref h1) (C := RX9) (T := TX9) (N := 2) hx hb hws inlX9 hown hK hP 0 rfl rfl 0 (by decide) (hws _ m_3_15) (fun _ h9 => h9) rfl dX9_put_12 ?_
  refine va_alen hx hb hK hP 1 0 rfl rfl (v := 420) rfl dX9_put_15 ?_
  refine lv_icmp_ge (tgt := 51) hx hb dX9_put_16 (by decide) (fun c_2 => absurd c_2 (by decide)) (fun _ => ?_)
  refine lv_aload_n hx hb dX9_put_19 rfl (lv_at hl 1 rfl) ?_
  refine va_get (D := (dC, dI)) (ci := 10) (v := .ref h1) (C := RX9) (T := TX9) (N := 2) hx hb hws inlX9 hown hK hP 0 rfl rfl 0 (by decide) (hws _ m_3_15) (fun _ h9 => h9) rfl dX9_put_20 ?_
  refine lv_aload_n hx hb dX9_put_23 rfl (lv_at hl 1 rfl) ?_
  refine va_get (D := (dC, dI)) (ci := 10) (v := .int 16) (C := RX9) (T := TX9) (N := 2) hx hb hws inlX9 hown hK hP 0 rfl rfl 1 (by decide) (hws _ m_3_16) (fun _ h9 => h9) rfl dX9_put_24 ?_
  refine lv_iload_n hx hb dX9_put_27 rfl (lv_at hl 2 rfl) ?_
  refine lv_iload_n hx hb dX9_put_28 rfl (lv_at hl 0 rfl) ?_
  refine lv_iushr hx hb dX9_put_29 rfl ?_
  refine lv_topi (fun x_3 _ => ?_)
  refine lv_sipush (v := 255) hx hb dX9_put_30 (by decide) ?_
  refine lv_iand hx hb dX9_put_33 ?_
  refine va_iastG hx hb hK hP hD hS 1 0 rfl rfl (vin_c (by decide)) dX9_put_34 (fun f_4 H locs hP hD hS => ?_)
  have hP : va_P (dC, dI) vwCl [(h0, .inr (10, [.ref h1, .int 16])), (h1, .inl (k0, 420, .inl f_4))] H := hP
  have hD : va_D A [(h0, .inr (10, [.ref h1, .int 16])), (h1, .inl (k0, 420, .inl f_4))] := hD
  refine lv_aload_n hx hb dX9_put_35 rfl (lv_at hl 1 rfl) ?_
  refine lv_dup hx hb dX9_put_36 rfl ?_
  refine va_get (D := (dC, dI)) (ci := 10) (v := .int 16) (C := RX9) (T := TX9) (N := 2) hx hb hws inlX9 hown hK hP 0 rfl rfl 1 (by decide) (hws _ m_3_16) (fun _ h9 => h9) rfl dX9_put_37 ?_
  refine lv_iconst (v := 1) hx hb dX9_put_40 (by decide) ?_
  refine lv_iadd hx hb dX9_put_41 ?_
  refine lv_topi (fun x_5 ex_5 => ?_)
  obtain rfl : x_5 = 17 := ex_5.trans (by decide)
  refine va_put (D := (dC, dI)) (ci := 10) (v := .int 17) (ty := .int) (C := RX9) (T := TX9) (N := 2) hx hb hws inlX9 tyX9 tyX9_ok nmX9 hown hK hP hD hS 0 rfl rfl 1 (by decide) (hws _ m_3_16) (fun _ h9 => h9) rfl (by decide +kernel) rfl rfl (Nat.le_of_ble_eq_true rfl) dX9_put_42 (fun H locs hP hD hS => ?_)
  have hP : va_P (dC, dI) vwCl [(h0, .inr (10, [.ref h1, .int 17])), (h1, .inl (k0, 420, .inl f_4))] H := hP
  have hD : va_D A [(h0, .inr (10, [.ref h1, .int 17])), (h1, .inl (k0, 420, .inl f_4))] := hD
  refine lv_iinc (v := 16) (lv' := [(2, .int 16), (0, .ref h0), (1, .int p0)]) hx hb dX9_put_45 hl (k := 0) rfl (by decide) (by decide) rfl (fun ls hl => ?_)
  refine lv_goto (tgt := 3) hx hb dX9_put_48 (by decide) ?_
  refine lv_iload_n hx hb dX9_put_3 rfl (lv_at hl 0 rfl) ?_
  refine lv_if_lt (tgt := 51) hx hb dX9_put_4 (by decide) (fun c_6 => absurd c_6 (by decide)) (fun _ => ?_)
  refine lv_aload_n hx hb dX9_put_7 rfl (lv_at hl 1 rfl) ?_
  refine va_get (D := (dC, dI)) (ci := 10) (v := .int 17) (C := RX9) (T := TX9) (N := 2) hx hb hws inlX9 hown hK hP 0 rfl rfl 1 (by decide) (hws _ m_3_16) (fun _ h9 => h9) rfl dX9_put_8 ?_
  refine lv_aload_n hx hb dX9_put_11 rfl (lv_at hl 1 rfl) ?_
  refine va_get (D := (dC, dI)) (ci := 10) (v := .ref h1) (C := RX9) (T := TX9) (N := 2) hx hb hws inlX9 hown hK hP 0 rfl rfl 0 (by decide) (hws _ m_3_15) (fun _ h9 => h9) rfl dX9_put_12 ?_
  refine va_alen hx hb hK hP 1 0 rfl rfl (v := 420) rfl dX9_put_15 ?_
  refine lv_icmp_ge (tgt := 51) hx hb dX9_put_16 (by decide) (fun c_7 => absurd c_7 (by decide)) (fun _ => ?_)
  refine lv_aload_n hx hb dX9_put_19 rfl (lv_at hl 1 rfl) ?_
  refine va_get (D := (dC, dI)) (ci := 10) (v := .ref h1) (C := RX9) (T := TX9) (N := 2) hx hb hws inlX9 hown hK hP 0 rfl rfl 0 (by decide) (hws _ m_3_15) (fun _ h9 => h9) rfl dX9_put_20 ?_
  refine lv_aload_n hx hb dX9_put_23 rfl (lv_at hl 1 rfl) ?_
  refine va_get (D := (dC, dI)) (ci := 10) (v := .int 17) (C := RX9) (T := TX9) (N := 2) hx hb hws inlX9 hown hK hP 0 rfl rfl 1 (by decide) (hws _ m_3_16) (fun _ h9 => h9) rfl dX9_put_24 ?_
  refine lv_iload_n hx hb dX9_put_27 rfl (lv_at hl 2 rfl) ?_
  refine lv_iload_n hx hb dX9_put_28 rfl (lv_at hl 0 rfl) ?_
  refine lv_iushr hx hb dX9_put_29 rfl ?_
  refine lv_topi (fun x_8 _ => ?_)
  refine lv_sipush (v := 255) hx hb dX9_put_30 (by decide) ?_
  refine lv_iand hx hb dX9_put_33 ?_
  refine va_iastG hx hb hK hP hD hS 1 0 rfl rfl (vin_c (by decide)) dX9_put_34 (fun f_9 H locs hP hD hS => ?_)
  have hP : va_P (dC, dI) vwCl [(h0, .inr (10, [.ref h1, .int 17])), (h1, .inl (k0, 420, .inl f_9))] H := hP
  have hD : va_D A [(h0, .inr (10, [.ref h1, .int 17])), (h1, .inl (k0, 420, .inl f_9))] := hD
  refine lv_aload_n hx hb dX9_put_35 rfl (lv_at hl 1 rfl) ?_
  refine lv_dup hx hb dX9_put_36 rfl ?_
  refine va_get (D := (dC, dI)) (ci := 10) (v := .int 17) (C := RX9) (T := TX9) (N := 2) hx hb hws inlX9 hown hK hP 0 rfl rfl 1 (by decide) (hws _ m_3_16) (fun _ h9 => h9) rfl dX9_put_37 ?_
  refine lv_iconst (v := 1) hx hb dX9_put_40 (by decide) ?_
  refine lv_iadd hx hb dX9_put_41 ?_
  refine lv_topi (fun x_10 ex_10 => ?_)
  obtain rfl : x_10 = 18 := ex_10.trans (by decide)
  refine va_put (D := (dC, dI)) (ci := 10) (v := .int 18) (ty := .int) (C := RX9) (T := TX9) (N := 2) hx hb hws inlX9 tyX9 tyX9_ok nmX9 hown hK hP hD hS 0 rfl rfl 1 (by decide) (hws _ m_3_16) (fun _ h9 => h9) rfl (by decide +kernel) rfl rfl (Nat.le_of_ble_eq_true rfl) dX9_put_42 (fun H locs hP hD hS => ?_)
  have hP : va_P (dC, dI) vwCl [(h0, .inr (10, [.ref h1, .int 18])), (h1, .inl (k0, 420, .inl f_9))] H := hP
  have hD : va_D A [(h0, .inr (10, [.ref h1, .int 18])), (h1, .inl (k0, 420, .inl f_9))] := hD
  refine lv_iinc (v := 8) (lv' := [(2, .int 8), (0, .ref h0), (1, .int p0)]) hx hb dX9_put_45 hl (k := 0) rfl (by decide) (by decide) rfl (fun ls hl => ?_)
  refine lv_goto (tgt := 3) hx hb dX9_put_48 (by decide) ?_
  refine lv_iload_n hx hb dX9_put_3 rfl (lv_at hl 0 rfl) ?_
  refine lv_if_lt (tgt := 51) hx hb dX9_put_4 (by decide) (fun c_11 => absurd c_11 (by decide)) (fun _ => ?_)
  refine lv_aload_n hx hb dX9_put_7 rfl (lv_at hl 1 rfl) ?_
  refine va_get (D := (dC, dI)) (ci := 10) (v := .int 18) (C := RX9) (T := TX9) (N := 2) hx hb hws inlX9 hown hK hP 0 rfl rfl 1 (by decide) (hws _ m_3_16) (fun _ h9 => h9) rfl dX9_put_8 ?_
  refine lv_aload_n hx hb dX9_put_11 rfl (lv_at hl 1 rfl) ?_
  refine va_get (D := (dC, dI)) (ci := 10) (v := .ref h1) (C := RX9) (T := TX9) (N := 2) hx hb hws inlX9 hown hK hP 0 rfl rfl 0 (by decide) (hws _ m_3_15) (fun _ h9 => h9) rfl dX9_put_12 ?_
  refine va_alen hx hb hK hP 1 0 rfl rfl (v := 420) rfl dX9_put_15 ?_
  refine lv_icmp_ge (tgt := 51) hx hb dX9_put_16 (by decide) (fun c_12 => absurd c_12 (by decide)) (fun _ => ?_)
  refine lv_aload_n hx hb dX9_put_19 rfl (lv_at hl 1 rfl) ?_
  refine va_get (D := (dC, dI)) (ci := 10) (v := .ref h1) (C := RX9) (T := TX9) (N := 2) hx hb hws inlX9 hown hK hP 0 rfl rfl 0 (by decide) (hws _ m_3_15) (fun _ h9 => h9) rfl dX9_put_20 ?_
  refine lv_aload_n hx hb dX9_put_23 rfl (lv_at hl 1 rfl) ?_
  refine va_get (D := (dC, dI)) (ci := 10) (v := .int 18) (C := RX9) (T := TX9) (N := 2) hx hb hws inlX9 hown hK hP 0 rfl rfl 1 (by decide) (hws _ m_3_16) (fun _ h9 => h9) rfl dX9_put_24 ?_
  refine lv_iload_n hx hb dX9_put_27 rfl (lv_at hl 2 rfl) ?_
  refine lv_iload_n hx hb dX9_put_28 rfl (lv_at hl 0 rfl) ?_
  refine lv_iushr hx hb dX9_put_29 rfl ?_
  refine lv_topi (fun x_13 _ => ?_)
  refine lv_sipush (v := 255) hx hb dX9_put_30 (by decide) ?_
  refine lv_iand hx hb dX9_put_33 ?_
  refine va_iastG hx hb hK hP hD hS 1 0 rfl rfl (vin_c (by decide)) dX9_put_34 (fun f_14 H locs hP hD hS => ?_)
  have hP : va_P (dC, dI) vwCl [(h0, .inr (10, [.ref h1, .int 18])), (h1, .inl (k0, 420, .inl f_14))] H := hP
  have hD : va_D A [(h0, .inr (10, [.ref h1, .int 18])), (h1, .inl (k0, 420, .inl f_14))] := hD
  refine lv_aload_n hx hb dX9_put_35 rfl (lv_at hl 1 rfl) ?_
  refine lv_dup hx hb dX9_put_36 rfl ?_
  refine va_get (D := (dC, dI)) (ci := 10) (v := .int 18) (C := RX9) (T := TX9) (N := 2) hx hb hws inlX9 hown hK hP 0 rfl rfl 1 (by decide) (hws _ m_3_16) (fun _ h9 => h9) rfl dX9_put_37 ?_
  refine lv_iconst (v := 1) hx hb dX9_put_40 (by decide) ?_
  refine lv_iadd hx hb dX9_put_41 ?_
  refine lv_topi (fun x_15 ex_15 => ?_)
  obtain rfl : x_15 = 19 := ex_15.trans (by decide)
  refine va_put (D := (dC, dI)) (ci := 10) (v := .int 19) (ty := .int) (C := RX9) (T := TX9) (N := 2) hx hb hws inlX9 tyX9 tyX9_ok nmX9 hown hK hP hD hS 0 rfl rfl 1 (by decide) (hws _ m_3_16) (fun _ h9 => h9) rfl (by decide +kernel) rfl rfl (Nat.le_of_ble_eq_true rfl) dX9_put_42 (fun H locs hP hD hS => ?_)
  have hP : va_P (dC, dI) vwCl [(h0, .inr (10, [.ref h1, .int 19])), (h1, .inl (k0, 420, .inl f_14))] H := hP
  have hD : va_D A [(h0, .inr (10, [.ref h1, .int 19])), (h1, .inl (k0, 420, .inl f_14))] := hD
  refine lv_iinc (v := 0) (lv' := [(2, .int 0), (0, .ref h0), (1, .int p0)]) hx hb dX9_put_45 hl (k := 0) rfl (by decide) (by decide) rfl (fun ls hl => ?_)
  refine lv_goto (tgt := 3) hx hb dX9_put_48 (by decide) ?_
  refine lv_iload_n hx hb dX9_put_3 rfl (lv_at hl 0 rfl) ?_
  refine lv_if_lt (tgt := 51) hx hb dX9_put_4 (by decide) (fun c_16 => absurd c_16 (by decide)) (fun _ => ?_)
  refine lv_aload_n hx hb dX9_put_7 rfl (lv_at hl 1 rfl) ?_
  refine va_get (D := (dC, dI)) (ci := 10) (v := .int 19) (C := RX9) (T := TX9) (N := 2) hx hb hws inlX9 hown hK hP 0 rfl rfl 1 (by decide) (hws _ m_3_16) (fun _ h9 => h9) rfl dX9_put_8 ?_
  refine lv_aload_n hx hb dX9_put_11 rfl (lv_at hl 1 rfl) ?_
  refine va_get (D := (dC, dI)) (ci := 10) (v := .ref h1) (C := RX9) (T := TX9) (N := 2) hx hb hws inlX9 hown hK hP 0 rfl rfl 0 (by decide) (hws _ m_3_15) (fun _ h9 => h9) rfl dX9_put_12 ?_
  refine va_alen hx hb hK hP 1 0 rfl rfl (v := 420) rfl dX9_put_15 ?_
  refine lv_icmp_ge (tgt := 51) hx hb dX9_put_16 (by decide) (fun c_17 => absurd c_17 (by decide)) (fun _ => ?_)
  refine lv_aload_n hx hb dX9_put_19 rfl (lv_at hl 1 rfl) ?_
  refine va_get (D := (dC, dI)) (ci := 10) (v := .ref h1) (C := RX9) (T := TX9) (N := 2) hx hb hws inlX9 hown hK hP 0 rfl rfl 0 (by decide) (hws _ m_3_15) (fun _ h9 => h9) rfl dX9_put_20 ?_
  refine lv_aload_n hx hb dX9_put_23 rfl (lv_at hl 1 rfl) ?_
  refine va_get (D := (dC, dI)) (ci := 10) (v := .int 19) (C := RX9) (T := TX9) (N := 2) hx hb hws inlX9 hown hK hP 0 rfl rfl 1 (by decide) (hws _ m_3_16) (fun _ h9 => h9) rfl dX9_put_24 ?_
  refine lv_iload_n hx hb dX9_put_27 rfl (lv_at hl 2 rfl) ?_
  refine lv_iload_n hx hb dX9_put_28 rfl (lv_at hl 0 rfl) ?_
  refine lv_iushr hx hb dX9_put_29 rfl ?_
  refine lv_topi (fun x_18 _ => ?_)
  refine lv_sipush (v := 255) hx hb dX9_put_30 (by decide) ?_
  refine lv_iand hx hb dX9_put_33 ?_
  refine va_iastG hx hb hK hP hD hS 1 0 rfl rfl (vin_c (by decide)) dX9_put_34 (fun f_19 H locs hP hD hS => ?_)
  have hP : va_P (dC, dI) vwCl [(h0, .inr (10, [.ref h1, .int 19])), (h1, .inl (k0, 420, .inl f_19))] H := hP
  have hD : va_D A [(h0, .inr (10, [.ref h1, .int 19])), (h1, .inl (k0, 420, .inl f_19))] := hD
  refine lv_aload_n hx hb dX9_put_35 rfl (lv_at hl 1 rfl) ?_
  refine lv_dup hx hb dX9_put_36 rfl ?_
  refine va_get (D := (dC, dI)) (ci := 10) (v := .int 19) (C := RX9) (T := TX9) (N := 2) hx hb hws inlX9 hown hK hP 0 rfl rfl 1 (by decide) (hws _ m_3_16) (fun _ h9 => h9) rfl dX9_put_37 ?_
  refine lv_iconst (v := 1) hx hb dX9_put_40 (by decide) ?_
  refine lv_iadd hx hb dX9_put_41 ?_
  refine lv_topi (fun x_20 ex_20 => ?_)
  obtain rfl : x_20 = 20 := ex_20.trans (by decide)
  refine va_put (D := (dC, dI)) (ci := 10) (v := .int 20) (ty := .int) (C := RX9) (T := TX9) (N := 2) hx hb hws inlX9 tyX9 tyX9_ok nmX9 hown hK hP hD hS 0 rfl rfl 1 (by decide) (hws _ m_3_16) (fun _ h9 => h9) rfl (by decide +kernel) rfl rfl (Nat.le_of_ble_eq_true rfl) dX9_put_42 (fun H locs hP hD hS => ?_)
  have hP : va_P (dC, dI) vwCl [(h0, .inr (10, [.ref h1, .int 20])), (h1, .inl (k0, 420, .inl f_19))] H := hP
  have hD : va_D A [(h0, .inr (10, [.ref h1, .int 20])), (h1, .inl (k0, 420, .inl f_19))] := hD
  refine lv_iinc (v := (-8)) (lv' := [(2, .int (-8)), (0, .ref h0), (1, .int p0)]) hx hb dX9_put_45 hl (k := 0) rfl (by decide) (by decide) rfl (fun ls hl => ?_)
  refine lv_goto (tgt := 3) hx hb dX9_put_48 (by decide) ?_
  refine lv_iload_n hx hb dX9_put_3 rfl (lv_at hl 0 rfl) ?_
  refine lv_if_lt (tgt := 51) hx hb dX9_put_4 (by decide) (fun _ => ?_) (fun c_21 => absurd (by decide) c_21)
  have hK9 := hK.sub (tys' := [(k0, .int)]) [0] rfl
  exact W.vret hx hb hr (fun t ht hW => ⟨⟨(), rfl, trivial, ⟨(fun k9 => ([] : List (Nat)).getD k9 0), (fun k9 => ([] : List ClassId).getD k9 default), (fun k9 => ([f_19] : List (Nat → Int32)).getD k9 (fun _ => 0)), (fun k9 => ([] : List (Int32)).getD k9 0), (fun k9 => ([] : List (Nat → Nat)).getD k9 (fun _ => 0)), by rw [ht]; exact hP, va_K.moved hW.alike hK9, hD⟩⟩, hS.F ht⟩) hS.2.2 dX9_put_51

set_option maxHeartbeats 4000000 in
set_option maxRecDepth 100000 in
theorem c_X11_feed_v1 (l : Launch) (dC : Nat → ClassId) (dI : Nat → Nat → Nat) (h0 : Nat) (p0 : Int32) (p1 : Int32) (p2 : Int32) (p3 : Int32) (p4 : Int32) (h1 : Nat) (h2 : Nat) (h3 : Nat) (h4 : Nat) (h5 : Nat) (h6 : Nat) (h7 : Nat) (h8 : Nat) (h9 : Nat) (h10 : Nat) (h11 : Nat) (h12 : Nat) (h13 : Nat) (k0 : ClassId) (sz : Nat) : Met l yX11_feed (Cond.code yX11_feed cX11_feed 6 (some .int) :: wsL_law) ({ frames := 1, cells := 0, slots := 0, locals := 22 }) (va_Pc [.ref h0, .int p0, .int p1, .int p2, .int p3, .int p4] (fun U => U.heap.size = sz ∧ va_P (dC, dI) vwCl [(h0, .inr (12, [.ref h1, .ref h2, .ref h3, .ref h4, .ref h5, .ref h6, .ref h7, .ref h8, .ref h9, .ref h10, .ref h11, .ref h12, .int 0, .int 0, .int (-1), .int (-1), .int (-1), .int (-1)])), (h1, .inr (10, [.ref h13, .int 0])), (h13, .inl (k0, 420, .inl (fun _ => 0)))] U.heap ∧ va_K (dC, dI) vwCl [(k0, .int)] U ∧ va_D (fun _ => True) [(h0, .inr (12, [.ref h1, .ref h2, .ref h3, .ref h4, .ref h5, .ref h6, .ref h7, .ref h8, .ref h9, .ref h10, .ref h11, .ref h12, .int 0, .int 0, .int (-1), .int (-1), .int (-1), .int (-1)])), (h1, .inr (10, [.ref h13, .int 0])), (h13, .inl (k0, 420, .inl (fun _ => 0)))])) (va_Qi (fun (r : Int32) (_ : Unit) => r = 20) (fun (_ : Unit) (_ : State) => True) (va_A [(h0, .inr (12, [.ref h1, .ref h2, .ref h3, .ref h4, .ref h5, .ref h6, .ref h7, .ref h8, .ref h9, .ref h10, .ref h11, .ref h12, .int 0, .int 0, .int (-1), .int (-1), .int (-1), .int (-1)])), (h1, .inr (10, [.ref h13, .int 0])), (h13, .inl (k0, 420, .inl (fun _ => 0)))] sz)) 0 0 (va_A [(h0, .inr (12, [.ref h1, .ref h2, .ref h3, .ref h4, .ref h5, .ref h6, .ref h7, .ref h8, .ref h9, .ref h10, .ref h11, .ref h12, .int 0, .int 0, .int (-1), .int (-1), .int (-1), .int (-1)])), (h1, .inr (10, [.ref h13, .int 0])), (h13, .inl (k0, 420, .inl (fun _ => 0)))] sz) := by
  refine Met.ofW (cc := cX11_feed) (maxL := 6) (ret := (some .int)) (by decide) rfl ?_
  intro p e s m args below meth c s₁ B hml hv
  obtain ⟨rfl, hsz, hP, hK, hD0⟩ := hv
  have hx := B.exec
  have hb := B.bytes
  have hr := B.returns
  have hts := atoms_spec (ws := Cond.code yX11_feed cX11_feed 6 (some .int) :: wsL_law) B.pre
  have hws : ∀ w ∈ wsL_law, w.before _ s = true := fun w h => hts w (List.mem_cons_of_mem _ h)
  have hown : s.vm.findClass RX11 = some m.cls := findClass_of_methodNamed B.named
  have hlocks := B.notSynchronized
  subst hsz
  have hD := hD0.self (sz := s.heap.size)
  generalize hAe : va_A [(h0, .inr (12, [.ref h1, .ref h2, .ref h3, .ref h4, .ref h5, .ref h6, .ref h7, .ref h8, .ref h9, .ref h10, .ref h11, .ref h12, .int 0, .int 0, .int (-1), .int (-1), .int (-1), .int (-1)])), (h1, .inr (10, [.ref h13, .int 0])), (h13, .inl (k0, 420, .inl (fun _ => 0)))] s.heap.size = A at hD ⊢
  have hA : ∀ q : Nat, s.heap.size ≤ q → A q := fun q h => by rw [← hAe]; exact Or.inr h
  have hS : va_S A s.heap s.heap [] := va_S.rf
  have hP : va_P (dC, dI) vwCl [(h0, .inr (12, [.ref h1, .ref h2, .ref h3, .ref h4, .ref h5, .ref h6, .ref h7, .ref h8, .ref h9, .ref h10, .ref h11, .ref h12, .int 0, .int 0, .int (-1), .int (-1), .int (-1), .int (-1)])), (h1, .inr (10, [.ref h13, .int 0])), (h13, .inl (k0, 420, .inl (fun _ => 0)))] s.heap := hP
  have hl := lv_entry ([.ref h0, .int p0, .int p1, .int p2, .int p3, .int p4]) (n := 6) (Nat.le_of_ble_eq_true rfl)
  rw [lg_entry_eq]
  generalize (lg_sl ([.ref h0, .int p0, .int p1, .int p2, .int p3, .int p4]) ++ List.replicate (6 - (lg_sl ([.ref h0, .int p0, .int p1, .int p2, .int p3, .int p4])).length) Slot.unset).toArray = ls at hl ⊢
  have hl : lv_has ls 6 [(0, .ref h0), (1, .int p0), (2, .int p1), (3, .int p2), (4, .int p3), (5, .int p4)] := hl
  refine lv_aload_n hx hb dX11_feed_0 rfl (lv_at hl 0 rfl) ?_
  refine va_get (D := (dC, dI)) (ci := 12) (v := .ref h1) (C := RX11) (T := TX11) (N := 18) hx hb hws inlX11 hown hK hP 0 rfl rfl 0 (by decide) (hws _ m_1_16) (fun _ h9 => h9) rfl dX11_feed_1 ?_
  refine va_get (D := (dC, dI)) (ci := 10) (v := .int 0) (C := RX9) (T := TX9) (N := 2) hx hb hws inlX9 hown hK hP 1 rfl rfl 1 (by decide) (hws _ m_10_20) (fun _ h9 => h9) rfl dX11_feed_4 ?_
  refine lv_bipush (v := 20) hx hb dX11_feed_7 (by decide) ?_
  refine lv_iadd hx hb dX11_feed_9 ?_
  refine lv_topi (fun x_1 ex_1 => ?_)
  obtain rfl : x_1 = 20 := ex_1.trans (by decide)
  refine lv_sipush (v := 420) hx hb dX11_feed_10 (by decide) ?_
  refine lv_icmp_le (tgt := 18) hx hb dX11_feed_13 (by decide) (fun _ => ?_) (fun c_2 => absurd (by decide) c_2)
  refine lv_aload_n hx hb dX11_feed_18 rfl (lv_at hl 0 rfl) ?_
  refine va_get (D := (dC, dI)) (ci := 12) (v := .ref h1) (C := RX11) (T := TX11) (N := 18) hx hb hws inlX11 hown hK hP 0 rfl rfl 0 (by decide) (hws _ m_1_16) (fun _ h9 => h9) rfl dX11_feed_19 ?_
  refine lv_iload_n hx hb dX11_feed_22 rfl (lv_at hl 1 rfl) ?_
  have hPc := hP.sub (ws' := [(h1, .inr (10, [.ref h13, .int 0])), (h13, .inl (k0, 420, .inl (fun _ => 0)))]) [1, 2] rfl
  have hDc := hD.sub (ws' := [(h1, .inr (10, [.ref h13, .int 0])), (h13, .inl (k0, 420, .inl (fun _ => 0)))]) [1, 2] (by decide) rfl
  have hKc := hK.sub (tys' := [(k0, .int)]) [0] rfl
  have hFc := va_free (wc := [(h1, .inr (10, [.ref h13, .int 0])), (h13, .inl (k0, 420, .inl (fun _ => 0)))]) hD hS hA [1, 2] rfl
  refine va_callv (va_runV (As := [.int p0]) (rest := []) ⟨hx, hb, hml, hown, hws⟩ (c_X9_put_v1 l dC dI h1 p0 h13 k0 s.heap.size) (cwV 1 hws (gw_V m_10_21 m_10_22 m_10_23 m_1_15 m_11_0) rfl rfl rfl (by decide +kernel) ⟨Nat.le_of_ble_eq_true rfl, Nat.le_of_ble_eq_true rfl⟩) ⟨fun a U g mk q => by obtain ⟨q0, q1, qP, qK, qD⟩ := q; exact ⟨q0, q1, qP, va_K.moved (u := U) (U := U.calling g mk a) (Vm.Alike.refl U.vm) qK, qD⟩, va_recv hKc hPc (ci := 10) (q0 := 0) rfl rfl, fun U hU hW => ⟨rfl, by rw [hU], by rw [hU]; exact hPc, va_K.moved hW.alike hKc, hDc.weaken (fun _ _ _ _ => trivial)⟩⟩ rfl rfl hl.1 rfl (lv_room (Nat.le_of_ble_eq_true rfl)) dX11_feed_23 ⟨Nat.le_of_ble_eq_true rfl, Nat.le_of_ble_eq_true rfl⟩) hS (fun q _ h => hFc q h) hFc (fun u t H1 locs ht hvm hr_3 hB hz1 hk1 hS => ?_)
  obtain ⟨au_4, cu_4, gu_4, zu_4, ru_4, hP1, hK1, hD1⟩ := hB
  rw [ht] at hP1
  have hK1 := va_K.moved hvm.symm hK1
  obtain ⟨hP, hD⟩ := va_join (wr := [(h0, .inr (12, [.ref h1, .ref h2, .ref h3, .ref h4, .ref h5, .ref h6, .ref h7, .ref h8, .ref h9, .ref h10, .ref h11, .ref h12, .int 0, .int 0, .int (-1), .int (-1), .int (-1), .int (-1)]))]) (w1 := [(h1, .inr (10, [.ref h13, .int 4])), (h13, .inl (k0, 420, .inl (gu_4 0)))]) hP hD [1, 2] [0] rfl rfl (by decide) (by decide) hk1 hFc hP1 hD1
  have hK := (hK.sub (tys' := []) [] rfl).app hK1
  generalize H1 = H at hP hS ⊢
  have hP : va_P (dC, dI) vwCl [(h0, .inr (12, [.ref h1, .ref h2, .ref h3, .ref h4, .ref h5, .ref h6, .ref h7, .ref h8, .ref h9, .ref h10, .ref h11, .ref h12, .int 0, .int 0, .int (-1), .int (-1), .int (-1), .int (-1)])), (h1, .inr (10, [.ref h13, .int 4])), (h13, .inl (k0, 420, .inl (gu_4 0)))] H := hP
  have hD : va_D A [(h0, .inr (12, [.ref h1, .ref h2, .ref h3, .ref h4, .ref h5, .ref h6, .ref h7, .ref h8, .ref h9, .ref h10, .ref h11, .ref h12, .int 0, .int 0, .int (-1), .int (-1), .int (-1), .int (-1)])), (h1, .inr (10, [.ref h13, .int 4])), (h13, .inl (k0, 420, .inl (gu_4 0)))] := hD
  have hK : va_K (dC, dI) vwCl [(k0, .int)] s := hK
  refine W.widen (k := 0) (n := 0) (Nat.le_of_ble_eq_true rfl) (Nat.le_of_ble_eq_true rfl) ?_
  refine lv_aload_n hx hb dX11_feed_26 rfl (lv_at hl 0 rfl) ?_
  refine va_get (D := (dC, dI)) (ci := 12) (v := .ref h1) (C := RX11) (T := TX11) (N := 18) hx hb hws inlX11 hown hK hP 0 rfl rfl 0 (by decide) (hws _ m_1_16) (fun _ h9 => h9) rfl dX11_feed_27 ?_
  refine lv_iload_n hx hb dX11_feed_30 rfl (lv_at hl 2 rfl) ?_
  have hPc := hP.sub (ws' := [(h1, .inr (10, [.ref h13, .int 4])), (h13, .inl (k0, 420, .inl (gu_4 0)))]) [1, 2] rfl
  have hDc := hD.sub (ws' := [(h1, .inr (10, [.ref h13, .int 4])), (h13, .inl (k0, 420, .inl (gu_4 0)))]) [1, 2] (by decide) rfl
  have hKc := hK.sub (tys' := [(k0, .int)]) [0] rfl
  have hFc := va_free (wc := [(h1, .inr (10, [.ref h13, .int 4])), (h13, .inl (k0, 420, .inl (gu_4 0)))]) hD hS hA [1, 2] rfl
  refine va_callv (va_runV (As := [.int p1]) (rest := []) ⟨hx, hb, hml, hown, hws⟩ (c_X9_put_v2 l dC dI h1 p1 h13 k0 (gu_4 0) H.size) (cwV 1 hws (gw_V m_10_21 m_10_22 m_10_23 m_1_15 m_11_0) rfl rfl rfl (by decide +kernel) ⟨Nat.le_of_ble_eq_true rfl, Nat.le_of_ble_eq_true rfl⟩) ⟨fun a U g mk q => by obtain ⟨q0, q1, qP, qK, qD⟩ := q; exact ⟨q0, q1, qP, va_K.moved (u := U) (U := U.calling g mk a) (Vm.Alike.refl U.vm) qK, qD⟩, va_recv hKc hPc (ci := 10) (q0 := 0) rfl rfl, fun U hU hW => ⟨rfl, by rw [hU], by rw [hU]; exact hPc, va_K.moved hW.alike hKc, hDc.weaken (fun _ _ _ _ => trivial)⟩⟩ rfl rfl hl.1 rfl (lv_room (Nat.le_of_ble_eq_true rfl)) dX11_feed_31 ⟨Nat.le_of_ble_eq_true rfl, Nat.le_of_ble_eq_true rfl⟩) hS (fun q _ h => hFc q h) hFc (fun u t H1 locs ht hvm hr_5 hB hz1 hk1 hS => ?_)
  obtain ⟨au_6, cu_6, gu_6, zu_6, ru_6, hP1, hK1, hD1⟩ := hB
  rw [ht] at hP1
  have hK1 := va_K.moved hvm.symm hK1
  obtain ⟨hP, hD⟩ := va_join (wr := [(h0, .inr (12, [.ref h1, .ref h2, .ref h3, .ref h4, .ref h5, .ref h6, .ref h7, .ref h8, .ref h9, .ref h10, .ref h11, .ref h12, .int 0, .int 0, .int (-1), .int (-1), .int (-1), .int (-1)]))]) (w1 := [(h1, .inr (10, [.ref h13, .int 8])), (h13, .inl (k0, 420, .inl (gu_6 0)))]) hP hD [1, 2] [0] rfl rfl (by decide) (by decide) hk1 hFc hP1 hD1
  have hK := (hK.sub (tys' := []) [] rfl).app hK1
  generalize H1 = H at hP hS ⊢
  have hP : va_P (dC, dI) vwCl [(h0, .inr (12, [.ref h1, .ref h2, .ref h3, .ref h4, .ref h5, .ref h6, .ref h7, .ref h8, .ref h9, .ref h10, .ref h11, .ref h12, .int 0, .int 0, .int (-1), .int (-1), .int (-1), .int (-1)])), (h1, .inr (10, [.ref h13, .int 8])), (h13, .inl (k0, 420, .inl (gu_6 0)))] H := hP
  have hD : va_D A [(h0, .inr (12, [.ref h1, .ref h2, .ref h3, .ref h4, .ref h5, .ref h6, .ref h7, .ref h8, .ref h9, .ref h10, .ref h11, .ref h12, .int 0, .int 0, .int (-1), .int (-1), .int (-1), .int (-1)])), (h1, .inr (10, [.ref h13, .int 8])), (h13, .inl (k0, 420, .inl (gu_6 0)))] := hD
  have hK : va_K (dC, dI) vwCl [(k0, .int)] s := hK
  refine W.widen (k := 0) (n := 0) (Nat.le_of_ble_eq_true rfl) (Nat.le_of_ble_eq_true rfl) ?_
  refine lv_aload_n hx hb dX11_feed_34 rfl (lv_at hl 0 rfl) ?_
  refine va_get (D := (dC, dI)) (ci := 12) (v := .ref h1) (C := RX11) (T := TX11) (N := 18) hx hb hws inlX11 hown hK hP 0 rfl rfl 0 (by decide) (hws _ m_1_16) (fun _ h9 => h9) rfl dX11_feed_35 ?_
  refine lv_iload_n hx hb dX11_feed_38 rfl (lv_at hl 3 rfl) ?_
  have hPc := hP.sub (ws' := [(h1, .inr (10, [.ref h13, .int 8])), (h13, .inl (k0, 420, .inl (gu_6 0)))]) [1, 2] rfl
  have hDc := hD.sub (ws' := [(h1, .inr (10, [.ref h13, .int 8])), (h13, .inl (k0, 420, .inl (gu_6 0)))]) [1, 2] (by decide) rfl
  have hKc := hK.sub (tys' := [(k0, .int)]) [0] rfl
  have hFc := va_free (wc := [(h1, .inr (10, [.ref h13, .int 8])), (h13, .inl (k0, 420, .inl (gu_6 0)))]) hD hS hA [1, 2] rfl
  refine va_callv (va_runV (As := [.int p2]) (rest := []) ⟨hx, hb, hml, hown, hws⟩ (c_X9_put_v3 l dC dI h1 p2 h13 k0 (gu_6 0) H.size) (cwV 1 hws (gw_V m_10_21 m_10_22 m_10_23 m_1_15 m_11_0) rfl rfl rfl (by decide +kernel) ⟨Nat.le_of_ble_eq_true rfl, Nat.le_of_ble_eq_true rfl⟩) ⟨fun a U g mk q => by obtain ⟨q0, q1, qP, qK, qD⟩ := q; exact ⟨q0, q1, qP, va_K.moved (u := U) (U := U.calling g mk a) (Vm.Alike.refl U.vm) qK, qD⟩, va_recv hKc hPc (ci := 10) (q0 := 0) rfl rfl, fun U hU hW => ⟨rfl, by rw [hU], by rw [hU]; exact hPc, va_K.moved hW.alike hKc, hDc.weaken (fun _ _ _ _ => trivial)⟩⟩ rfl rfl hl.1 rfl (lv_room (Nat.le_of_ble_eq_true rfl)) dX11_feed_39 ⟨Nat.le_of_ble_eq_true rfl, Nat.le_of_ble_eq_true rfl⟩) hS (fun q _ h => hFc q h) hFc (fun u t H1 locs ht hvm hr_7 hB hz1 hk1 hS => ?_)
  obtain ⟨au_8, cu_8, gu_8, zu_8, ru_8, hP1, hK1, hD1⟩ := hB
  rw [ht] at hP1
  have hK1 := va_K.moved hvm.symm hK1
  obtain ⟨hP, hD⟩ := va_join (wr := [(h0, .inr (12, [.ref h1, .ref h2, .ref h3, .ref h4, .ref h5, .ref h6, .ref h7, .ref h8, .ref h9, .ref h10, .ref h11, .ref h12, .int 0, .int 0, .int (-1), .int (-1), .int (-1), .int (-1)]))]) (w1 := [(h1, .inr (10, [.ref h13, .int 12])), (h13, .inl (k0, 420, .inl (gu_8 0)))]) hP hD [1, 2] [0] rfl rfl (by decide) (by decide) hk1 hFc hP1 hD1
  have hK := (hK.sub (tys' := []) [] rfl).app hK1
  generalize H1 = H at hP hS ⊢
  have hP : va_P (dC, dI) vwCl [(h0, .inr (12, [.ref h1, .ref h2, .ref h3, .ref h4, .ref h5, .ref h6, .ref h7, .ref h8, .ref h9, .ref h10, .ref h11, .ref h12, .int 0, .int 0, .int (-1), .int (-1), .int (-1), .int (-1)])), (h1, .inr (10, [.ref h13, .int 12])), (h13, .inl (k0, 420, .inl (gu_8 0)))] H := hP
  have hD : va_D A [(h0, .inr (12, [.ref h1, .ref h2, .ref h3, .ref h4, .ref h5, .ref h6, .ref h7, .ref h8, .ref h9, .ref h10, .ref h11, .ref h12, .int 0, .int 0, .int (-1), .int (-1), .int (-1), .int (-1)])), (h1, .inr (10, [.ref h13, .int 12])), (h13, .inl (k0, 420, .inl (gu_8 0)))] := hD
  have hK : va_K (dC, dI) vwCl [(k0, .int)] s := hK
  refine W.widen (k := 0) (n := 0) (Nat.le_of_ble_eq_true rfl) (Nat.le_of_ble_eq_true rfl) ?_
  refine lv_aload_n hx hb dX11_feed_42 rfl (lv_at hl 0 rfl) ?_
  refine va_get (D := (dC, dI)) (ci := 12) (v := .ref h1) (C := RX11) (T := TX11) (N := 18) hx hb hws inlX11 hown hK hP 0 rfl rfl 0 (by decide) (hws _ m_1_16) (fun _ h9 => h9) rfl dX11_feed_43 ?_
  refine lv_iload hx hb dX11_feed_46 (lv_at hl 4 rfl) ?_
  have hPc := hP.sub (ws' := [(h1, .inr (10, [.ref h13, .int 12])), (h13, .inl (k0, 420, .inl (gu_8 0)))]) [1, 2] rfl
  have hDc := hD.sub (ws' := [(h1, .inr (10, [.ref h13, .int 12])), (h13, .inl (k0, 420, .inl (gu_8 0)))]) [1, 2] (by decide) rfl
  have hKc := hK.sub (tys' := [(k0, .int)]) [0] rfl
  have hFc := va_free (wc := [(h1, .inr (10, [.ref h13, .int 12])), (h13, .inl (k0, 420, .inl (gu_8 0)))]) hD hS hA [1, 2] rfl
  refine va_callv (va_runV (As := [.int p3]) (rest := []) ⟨hx, hb, hml, hown, hws⟩ (c_X9_put_v4 l dC dI h1 p3 h13 k0 (gu_8 0) H.size) (cwV 1 hws (gw_V m_10_21 m_10_22 m_10_23 m_1_15 m_11_0) rfl rfl rfl (by decide +kernel) ⟨Nat.le_of_ble_eq_true rfl, Nat.le_of_ble_eq_true rfl⟩) ⟨fun a U g mk q => by obtain ⟨q0, q1, qP, qK, qD⟩ := q; exact ⟨q0, q1, qP, va_K.moved (u := U) (U := U.calling g mk a) (Vm.Alike.refl U.vm) qK, qD⟩, va_recv hKc hPc (ci := 10) (q0 := 0) rfl rfl, fun U hU hW => ⟨rfl, by rw [hU], by rw [hU]; exact hPc, va_K.moved hW.alike hKc, hDc.weaken (fun _ _ _ _ => trivial)⟩⟩ rfl rfl hl.1 rfl (lv_room (Nat.le_of_ble_eq_true rfl)) dX11_feed_48 ⟨Nat.le_of_ble_eq_true rfl, Nat.le_of_ble_eq_true rfl⟩) hS (fun q _ h => hFc q h) hFc (fun u t H1 locs ht hvm hr_9 hB hz1 hk1 hS => ?_)
  obtain ⟨au_10, cu_10, gu_10, zu_10, ru_10, hP1, hK1, hD1⟩ := hB
  rw [ht] at hP1
  have hK1 := va_K.moved hvm.symm hK1
  obtain ⟨hP, hD⟩ := va_join (wr := [(h0, .inr (12, [.ref h1, .ref h2, .ref h3, .ref h4, .ref h5, .ref h6, .ref h7, .ref h8, .ref h9, .ref h10, .ref h11, .ref h12, .int 0, .int 0, .int (-1), .int (-1), .int (-1), .int (-1)]))]) (w1 := [(h1, .inr (10, [.ref h13, .int 16])), (h13, .inl (k0, 420, .inl (gu_10 0)))]) hP hD [1, 2] [0] rfl rfl (by decide) (by decide) hk1 hFc hP1 hD1
  have hK := (hK.sub (tys' := []) [] rfl).app hK1
  generalize H1 = H at hP hS ⊢
  have hP : va_P (dC, dI) vwCl [(h0, .inr (12, [.ref h1, .ref h2, .ref h3, .ref h4, .ref h5, .ref h6, .ref h7, .ref h8, .ref h9, .ref h10, .ref h11, .ref h12, .int 0, .int 0, .int (-1), .int (-1), .int (-1), .int (-1)])), (h1, .inr (10, [.ref h13, .int 16])), (h13, .inl (k0, 420, .inl (gu_10 0)))] H := hP
  have hD : va_D A [(h0, .inr (12, [.ref h1, .ref h2, .ref h3, .ref h4, .ref h5, .ref h6, .ref h7, .ref h8, .ref h9, .ref h10, .ref h11, .ref h12, .int 0, .int 0, .int (-1), .int (-1), .int (-1), .int (-1)])), (h1, .inr (10, [.ref h13, .int 16])), (h13, .inl (k0, 420, .inl (gu_10 0)))] := hD
  have hK : va_K (dC, dI) vwCl [(k0, .int)] s := hK
  refine W.widen (k := 0) (n := 0) (Nat.le_of_ble_eq_true rfl) (Nat.le_of_ble_eq_true rfl) ?_
  refine lv_aload_n hx hb dX11_feed_51 rfl (lv_at hl 0 rfl) ?_
  refine va_get (D := (dC, dI)) (ci := 12) (v := .ref h1) (C := RX11) (T := TX11) (N := 18) hx hb hws inlX11 hown hK hP 0 rfl rfl 0 (by decide) (hws _ m_1_16) (fun _ h9 => h9) rfl dX11_feed_52 ?_
  refine lv_iload hx hb dX11_feed_55 (lv_at hl 5 rfl) ?_
  have hPc := hP.sub (ws' := [(h1, .inr (10, [.ref h13, .int 16])), (h13, .inl (k0, 420, .inl (gu_10 0)))]) [1, 2] rfl
  have hDc := hD.sub (ws' := [(h1, .inr (10, [.ref h13, .int 16])), (h13, .inl (k0, 420, .inl (gu_10 0)))]) [1, 2] (by decide) rfl
  have hKc := hK.sub (tys' := [(k0, .int)]) [0] rfl
  have hFc := va_free (wc := [(h1, .inr (10, [.ref h13, .int 16])), (h13, .inl (k0, 420, .inl (gu_10 0)))]) hD hS hA [1, 2] rfl
  refine va_callv (va_runV (As := [.int p4]) (rest := []) ⟨hx, hb, hml, hown, hws⟩ (c_X9_put_v5 l dC dI h1 p4 h13 k0 (gu_10 0) H.size) (cwV 1 hws (gw_V m_10_21 m_10_22 m_10_23 m_1_15 m_11_0) rfl rfl rfl (by decide +kernel) ⟨Nat.le_of_ble_eq_true rfl, Nat.le_of_ble_eq_true rfl⟩) ⟨fun a U g mk q => by obtain ⟨q0, q1, qP, qK, qD⟩ := q; exact ⟨q0, q1, qP, va_K.moved (u := U) (U := U.calling g mk a) (Vm.Alike.refl U.vm) qK, qD⟩, va_recv hKc hPc (ci := 10) (q0 := 0) rfl rfl, fun U hU hW => ⟨rfl, by rw [hU], by rw [hU]; exact hPc, va_K.moved hW.alike hKc, hDc.weaken (fun _ _ _ _ => trivial)⟩⟩ rfl rfl hl.1 rfl (lv_room (Nat.le_of_ble_eq_true rfl)) dX11_feed_57 ⟨Nat.le_of_ble_eq_true rfl, Nat.le_of_ble_eq_true rfl⟩) hS (fun q _ h => hFc q h) hFc (fun u t H1 locs ht hvm hr_11 hB hz1 hk1 hS => ?_)
  obtain ⟨au_12, cu_12, gu_12, zu_12, ru_12, hP1, hK1, hD1⟩ := hB
  rw [ht] at hP1
  have hK1 := va_K.moved hvm.symm hK1
  obtain ⟨hP, hD⟩ := va_join (wr := [(h0, .inr (12, [.ref h1, .ref h2, .ref h3, .ref h4, .ref h5, .ref h6, .ref h7, .ref h8, .ref h9, .ref h10, .ref h11, .ref h12, .int 0, .int 0, .int (-1), .int (-1), .int (-1), .int (-1)]))]) (w1 := [(h1, .inr (10, [.ref h13, .int 20])), (h13, .inl (k0, 420, .inl (gu_12 0)))]) hP hD [1, 2] [0] rfl rfl (by decide) (by decide) hk1 hFc hP1 hD1
  have hK := (hK.sub (tys' := []) [] rfl).app hK1
  generalize H1 = H at hP hS ⊢
  have hP : va_P (dC, dI) vwCl [(h0, .inr (12, [.ref h1, .ref h2, .ref h3, .ref h4, .ref h5, .ref h6, .ref h7, .ref h8, .ref h9, .ref h10, .ref h11, .ref h12, .int 0, .int 0, .int (-1), .int (-1), .int (-1), .int (-1)])), (h1, .inr (10, [.ref h13, .int 20])), (h13, .inl (k0, 420, .inl (gu_12 0)))] H := hP
  have hD : va_D A [(h0, .inr (12, [.ref h1, .ref h2, .ref h3, .ref h4, .ref h5, .ref h6, .ref h7, .ref h8, .ref h9, .ref h10, .ref h11, .ref h12, .int 0, .int 0, .int (-1), .int (-1), .int (-1), .int (-1)])), (h1, .inr (10, [.ref h13, .int 20])), (h13, .inl (k0, 420, .inl (gu_12 0)))] := hD
  have hK : va_K (dC, dI) vwCl [(k0, .int)] s := hK
  refine W.widen (k := 0) (n := 0) (Nat.le_of_ble_eq_true rfl) (Nat.le_of_ble_eq_true rfl) ?_
  refine lv_aload_n hx hb dX11_feed_60 rfl (lv_at hl 0 rfl) ?_
  refine va_get (D := (dC, dI)) (ci := 12) (v := .ref h1) (C := RX11) (T := TX11) (N := 18) hx hb hws inlX11 hown hK hP 0 rfl rfl 0 (by decide) (hws _ m_1_16) (fun _ h9 => h9) rfl dX11_feed_61 ?_
  refine va_get (D := (dC, dI)) (ci := 10) (v := .int 20) (C := RX9) (T := TX9) (N := 2) hx hb hws inlX9 hown hK hP 1 rfl rfl 1 (by decide) (hws _ m_10_20) (fun _ h9 => h9) rfl dX11_feed_64 ?_
  exact W.iret (v := 20) hx hb hr (fun t ht hW => ⟨⟨20, (), rfl, rfl, trivial⟩, hS.F ht⟩) hS.2.2 dX11_feed_67
