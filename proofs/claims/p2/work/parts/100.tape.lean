set_option maxHeartbeats 4000000 in
set_option maxRecDepth 100000 in
theorem c_X9_put_v1 (l : Launch) (dC : Nat → ClassId) (dI : Nat → Nat → Nat) (h0 : Nat) (p0 : Int32) (h1 : Nat) (k0 : ClassId) (f0 : Nat → Int32) (n0 : Nat) (sz : Nat) (hn_n0 : n0 ≤ 416) : Met l yX9_put (Cond.code yX9_put cX9_put 3 none :: wsL_law) ({ frames := 0, cells := 0, slots := 0, locals := 0 }) (va_Pc [.ref h0, .int p0] (fun U => U.heap.size = sz ∧ va_P (dC, dI) vwCl [(h0, .inr (10, [.ref h1, .int (nI n0)])), (h1, .inl (k0, 420, .inl f0))] U.heap ∧ va_K (dC, dI) vwCl [(k0, .int)] U ∧ va_D (fun _ => True) [(h0, .inr (10, [.ref h1, .int (nI n0)])), (h1, .inl (k0, 420, .inl f0))])) (va_Qv (fun (_ : Unit) => True) (fun (_ : Unit) (t : State) => ∃ (qa : Nat → Nat) (qc : Nat → ClassId) (qg : Nat → Nat → Int32) (qz : Nat → Int32) (qr : Nat → Nat → Nat), va_P (dC, dI) vwCl [(h0, .inr (10, [.ref h1, .int (nI (n0 + 4))])), (h1, .inl (k0, 420, .inl (qg 0)))] t.heap ∧ va_K (dC, dI) vwCl [(k0, .int)] t ∧ va_D (va_A [(h0, .inr (10, [.ref h1, .int (nI n0)])), (h1, .inl (k0, 420, .inl f0))] sz) [(h0, .inr (10, [.ref h1, .int (nI (n0 + 4))])), (h1, .inl (k0, 420, .inl (qg 0)))]) (va_A [(h0, .inr (10, [.ref h1, .int (nI n0)])), (h1, .inl (k0, 420, .inl f0))] sz)) 0 0 (va_A [(h0, .inr (10, [.ref h1, .int (nI n0)])), (h1, .inl (k0, 420, .inl f0))] sz) := by
  refine Met.ofW (cc := cX9_put) (maxL := 3) (ret := none) (by decide) rfl ?_
  intro p e s m args below meth c s₁ B hml hv
  obtain ⟨rfl, hsz, hP, hK, hD0⟩ := hv
  have hx := B.exec
  have hb := B.bytes
  have hr := B.returns
  have hts := atoms_spec (ws := Cond.code yX9_put cX9_put 3 none :: wsL_law) B.pre
  have hws : ∀ w ∈ wsL_law, w.before _ s = true := fun w h => hts w (List.mem_cons_of_mem _ h)
  have hown : s.vm.findClass RX9 = some m.cls := findClass_of_methodNamed B.named
  have hlocks := B.notSynchronized
  subst hsz
  have hD := hD0.self (sz := s.heap.size)
  generalize hAe : va_A [(h0, .inr (10, [.ref h1, .int (nI n0)])), (h1, .inl (k0, 420, .inl f0))] s.heap.size = A at hD ⊢
  have hA : ∀ q : Nat, s.heap.size ≤ q → A q := fun q h => by rw [← hAe]; exact Or.inr h
  have hS : va_S A s.heap s.heap [] := va_S.rf
  have hP : va_P (dC, dI) vwCl [(h0, .inr (10, [.ref h1, .int (nI n0)])), (h1, .inl (k0, 420, .inl f0))] s.heap := hP
  have hl := lv_entry ([.ref h0, .int p0]) (n := 3) (Nat.le_of_ble_eq_true rfl)
  rw [lg_entry_eq]
  generalize (lg_sl ([.ref h0, .int p0]) ++ List.replicate (3 - (lg_sl ([.ref h0, .int p0])).length) Slot.unset).toArray = ls at hl ⊢
  have hl : lv_has ls 3 [(0, .ref h0), (1, .int p0)] := hl
  refine lv_bipush (v := 24) hx hb dX9_put_0 (by decide) ?_
  refine lv_istore_n (lv' := [(2, .int 24), (0, .ref h0), (1, .int p0)]) hx hb dX9_put_2 rfl hl (by decide) rfl (fun ls hl => ?_)
  refine lv_iload_n hx hb dX9_put_3 rfl (lv_at hl 0 rfl) ?_
  refine lv_if_lt (tgt := 51) hx hb dX9_put_4 (by decide) (fun c_1 => absurd c_1 (by decide)) (fun _ => ?_)
  refine lv_aload_n hx hb dX9_put_7 rfl (lv_at hl 1 rfl) ?_
  refine va_get (D := (dC, dI)) (ci := 10) (v := .int (nI n0)) (C := RX9) (T := TX9) (N := 2) hx hb hws inlX9 hown hK hP 0 rfl rfl 1 (by decide) (hws _ m_3_16) (fun _ h9 => h9) rfl dX9_put_8 ?_
  refine lv_aload_n hx hb dX9_put_11 rfl (lv_at hl 1 rfl) ?_
  refine va_get (D := (dC, dI)) (ci := 10) (v := .ref h1) (C := RX9) (T := TX9) (N := 2) hx hb hws inlX9 hown hK hP 0 rfl rfl 0 (by decide) (hws _ m_3_15) (fun _ h9 => h9) rfl dX9_put_12 ?_
  refine va_alen hx hb hK hP 1 0 rfl rfl (v := 420) rfl dX9_put_15 ?_
  refine lv_icmp_ge (tgt := 51) hx hb dX9_put_16 (by decide) (fun c_2 => absurd c_2 (nI_ge (a := n0) (b := 420) (by omega) (by omega))) (fun _ => ?_)
  refine lv_aload_n hx hb dX9_put_19 rfl (lv_at hl 1 rfl) ?_
  refine va_get (D := (dC, dI)) (ci := 10) (v := .ref h1) (C := RX9) (T := TX9) (N := 2) hx hb hws inlX9 hown hK hP 0 rfl rfl 0 (by decide) (hws _ m_3_15) (fun _ h9 => h9) rfl dX9_put_20 ?_
  refine lv_aload_n hx hb dX9_put_23 rfl (lv_at hl 1 rfl) ?_
  refine va_get (D := (dC, dI)) (ci := 10) (v := .int (nI n0)) (C := RX9) (T := TX9) (N := 2) hx hb hws inlX9 hown hK hP 0 rfl rfl 1 (by decide) (hws _ m_3_16) (fun _ h9 => h9) rfl dX9_put_24 ?_
  refine lv_iload_n hx hb dX9_put_27 rfl (lv_at hl 2 rfl) ?_
  refine lv_iload_n hx hb dX9_put_28 rfl (lv_at hl 0 rfl) ?_
  refine lv_iushr hx hb dX9_put_29 rfl ?_
  refine lv_topi (fun x_3 _ => ?_)
  refine lv_sipush (v := 255) hx hb dX9_put_30 (by decide) ?_
  refine lv_iand hx hb dX9_put_33 ?_
  refine va_iastG hx hb hK hP hD hS 1 0 rfl rfl (vp_in_nI (show n0 < 420 by omega) (by decide)) dX9_put_34 (fun f_4 H locs hP hD hS => ?_)
  have hP : va_P (dC, dI) vwCl [(h0, .inr (10, [.ref h1, .int (nI n0)])), (h1, .inl (k0, 420, .inl f_4))] H := hP
  have hD : va_D A [(h0, .inr (10, [.ref h1, .int (nI n0)])), (h1, .inl (k0, 420, .inl f_4))] := hD
  refine lv_aload_n hx hb dX9_put_35 rfl (lv_at hl 1 rfl) ?_
  refine lv_dup hx hb dX9_put_36 rfl ?_
  refine va_get (D := (dC, dI)) (ci := 10) (v := .int (nI n0)) (C := RX9) (T := TX9) (N := 2) hx hb hws inlX9 hown hK hP 0 rfl rfl 1 (by decide) (hws _ m_3_16) (fun _ h9 => h9) rfl dX9_put_37 ?_
  refine lv_iconst (v := 1) hx hb dX9_put_40 (by decide) ?_
  refine lv_iadd hx hb dX9_put_41 ?_
  refine lv_topi (fun x_5 ex_5 => ?_)
  obtain rfl : x_5 = nI (n0 + 1) := ex_5.trans (nI_add (n0) 1)
  refine va_put (D := (dC, dI)) (ci := 10) (v := .int (nI (n0 + 1))) (ty := .int) (C := RX9) (T := TX9) (N := 2) hx hb hws inlX9 tyX9 tyX9_ok nmX9 hown hK hP hD hS 0 rfl rfl 1 (by decide) (hws _ m_3_16) (fun _ h9 => h9) rfl (by decide +kernel) rfl rfl (Nat.le_of_ble_eq_true rfl) dX9_put_42 (fun H locs hP hD hS => ?_)
  have hP : va_P (dC, dI) vwCl [(h0, .inr (10, [.ref h1, .int (nI (n0 + 1))])), (h1, .inl (k0, 420, .inl f_4))] H := hP
  have hD : va_D A [(h0, .inr (10, [.ref h1, .int (nI (n0 + 1))])), (h1, .inl (k0, 420, .inl f_4))] := hD
  refine lv_iinc (v := 16) (lv' := [(2, .int 16), (0, .ref h0), (1, .int p0)]) hx hb dX9_put_45 hl (k := 0) rfl (by decide) (by decide) rfl (fun ls hl => ?_)
  refine lv_goto (tgt := 3) hx hb dX9_put_48 (by decide) ?_
  refine lv_iload_n hx hb dX9_put_3 rfl (lv_at hl 0 rfl) ?_
  refine lv_if_lt (tgt := 51) hx hb dX9_put_4 (by decide) (fun c_6 => absurd c_6 (by decide)) (fun _ => ?_)
  refine lv_aload_n hx hb dX9_put_7 rfl (lv_at hl 1 rfl) ?_
  refine va_get (D := (dC, dI)) (ci := 10) (v := .int (nI (n0 + 1))) (C := RX9) (T := TX9) (N := 2) hx hb hws inlX9 hown hK hP 0 rfl rfl 1 (by decide) (hws _ m_3_16) (fun _ h9 => h9) rfl dX9_put_8 ?_
  refine lv_aload_n hx hb dX9_put_11 rfl (lv_at hl 1 rfl) ?_
  refine va_get (D := (dC, dI)) (ci := 10) (v := .ref h1) (C := RX9) (T := TX9) (N := 2) hx hb hws inlX9 hown hK hP 0 rfl rfl 0 (by decide) (hws _ m_3_15) (fun _ h9 => h9) rfl dX9_put_12 ?_
  refine va_alen hx hb hK hP 1 0 rfl rfl (v := 420) rfl dX9_put_15 ?_
  refine lv_icmp_ge (tgt := 51) hx hb dX9_put_16 (by decide) (fun c_7 => absurd c_7 (nI_ge (a := n0 + 1) (b := 420) (by omega) (by omega))) (fun _ => ?_)
  refine lv_aload_n hx hb dX9_put_19 rfl (lv_at hl 1 rfl) ?_
  refine va_get (D := (dC, dI)) (ci := 10) (v := .ref h1) (C := RX9) (T := TX9) (N := 2) hx hb hws inlX9 hown hK hP 0 rfl rfl 0 (by decide) (hws _ m_3_15) (fun _ h9 => h9) rfl dX9_put_20 ?_
  refine lv_aload_n hx hb dX9_put_23 rfl (lv_at hl 1 rfl) ?_
  refine va_get (D := (dC, dI)) (ci := 10) (v := .int (nI (n0 + 1))) (C := RX9) (T := TX9) (N := 2) hx hb hws inlX9 hown hK hP 0 rfl rfl 1 (by decide) (hws _ m_3_16) (fun _ h9 => h9) rfl dX9_put_24 ?_
  refine lv_iload_n hx hb dX9_put_27 rfl (lv_at hl 2 rfl) ?_
  refine lv_iload_n hx hb dX9_put_28 rfl (lv_at hl 0 rfl) ?_
  refine lv_iushr hx hb dX9_put_29 rfl ?_
  refine lv_topi (fun x_8 _ => ?_)
  refine lv_sipush (v := 255) hx hb dX9_put_30 (by decide) ?_
  refine lv_iand hx hb dX9_put_33 ?_
  refine va_iastG hx hb hK hP hD hS 1 0 rfl rfl (vp_in_nI (show n0 + 1 < 420 by omega) (by decide)) dX9_put_34 (fun f_9 H locs hP hD hS => ?_)
  have hP : va_P (dC, dI) vwCl [(h0, .inr (10, [.ref h1, .int (nI (n0 + 1))])), (h1, .inl (k0, 420, .inl f_9))] H := hP
  have hD : va_D A [(h0, .inr (10, [.ref h1, .int (nI (n0 + 1))])), (h1, .inl (k0, 420, .inl f_9))] := hD
  refine lv_aload_n hx hb dX9_put_35 rfl (lv_at hl 1 rfl) ?_
  refine lv_dup hx hb dX9_put_36 rfl ?_
  refine va_get (D := (dC, dI)) (ci := 10) (v := .int (nI (n0 + 1))) (C := RX9) (T := TX9) (N := 2) hx hb hws inlX9 hown hK hP 0 rfl rfl 1 (by decide) (hws _ m_3_16) (fun _ h9 => h9) rfl dX9_put_37 ?_
  refine lv_iconst (v := 1) hx hb dX9_put_40 (by decide) ?_
  refine lv_iadd hx hb dX9_put_41 ?_
  refine lv_topi (fun x_10 ex_10 => ?_)
  obtain rfl : x_10 = nI (n0 + 2) := ex_10.trans (nI_add (n0 + 1) 1)
  refine va_put (D := (dC, dI)) (ci := 10) (v := .int (nI (n0 + 2))) (ty := .int) (C := RX9) (T := TX9) (N := 2) hx hb hws inlX9 tyX9 tyX9_ok nmX9 hown hK hP hD hS 0 rfl rfl 1 (by decide) (hws _ m_3_16) (fun _ h9 => h9) rfl (by decide +kernel) rfl rfl (Nat.le_of_ble_eq_true rfl) dX9_put_42 (fun H locs hP hD hS => ?_)
  have hP : va_P (dC, dI) vwCl [(h0, .inr (10, [.ref h1, .int (nI (n0 + 2))])), (h1, .inl (k0, 420, .inl f_9))] H := hP
  have hD : va_D A [(h0, .inr (10, [.ref h1, .int (nI (n0 + 2))])), (h1, .inl (k0, 420, .inl f_9))] := hD
  refine lv_iinc (v := 8) (lv' := [(2, .int 8), (0, .ref h0), (1, .int p0)]) hx hb dX9_put_45 hl (k := 0) rfl (by decide) (by decide) rfl (fun ls hl => ?_)
  refine lv_goto (tgt := 3) hx hb dX9_put_48 (by decide) ?_
  refine lv_iload_n hx hb dX9_put_3 rfl (lv_at hl 0 rfl) ?_
  refine lv_if_lt (tgt := 51) hx hb dX9_put_4 (by decide) (fun c_11 => absurd c_11 (by decide)) (fun _ => ?_)
  refine lv_aload_n hx hb dX9_put_7 rfl (lv_at hl 1 rfl) ?_
  refine va_get (D := (dC, dI)) (ci := 10) (v := .int (nI (n0 + 2))) (C := RX9) (T := TX9) (N := 2) hx hb hws inlX9 hown hK hP 0 rfl rfl 1 (by decide) (hws _ m_3_16) (fun _ h9 => h9) rfl dX9_put_8 ?_
  refine lv_aload_n hx hb dX9_put_11 rfl (lv_at hl 1 rfl) ?_
  refine va_get (D := (dC, dI)) (ci := 10) (v := .ref h1) (C := RX9) (T := TX9) (N := 2) hx hb hws inlX9 hown hK hP 0 rfl rfl 0 (by decide) (hws _ m_3_15) (fun _ h9 => h9) rfl dX9_put_12 ?_
  refine va_alen hx hb hK hP 1 0 rfl rfl (v := 420) rfl dX9_put_15 ?_
  refine lv_icmp_ge (tgt := 51) hx hb dX9_put_16 (by decide) (fun c_12 => absurd c_12 (nI_ge (a := n0 + 2) (b := 420) (by omega) (by omega))) (fun _ => ?_)
  refine lv_aload_n hx hb dX9_put_19 rfl (lv_at hl 1 rfl) ?_
  refine va_get (D := (dC, dI)) (ci := 10) (v := .ref h1) (C := RX9) (T := TX9) (N := 2) hx hb hws inlX9 hown hK hP 0 rfl rfl 0 (by decide) (hws _ m_3_15) (fun _ h9 => h9) rfl dX9_put_20 ?_
  refine lv_aload_n hx hb dX9_put_23 rfl (lv_at hl 1 rfl) ?_
  refine va_get (D := (dC, dI)) (ci := 10) (v := .int (nI (n0 + 2))) (C := RX9) (T := TX9) (N := 2) hx hb hws inlX9 hown hK hP 0 rfl rfl 1 (by decide) (hws _ m_3_16) (fun _ h9 => h9) rfl dX9_put_24 ?_
  refine lv_iload_n hx hb dX9_put_27 rfl (lv_at hl 2 rfl) ?_
  refine lv_iload_n hx hb dX9_put_28 rfl (lv_at hl 0 rfl) ?_
  refine lv_iushr hx hb dX9_put_29 rfl ?_
  refine lv_topi (fun x_13 _ => ?_)
  refine lv_sipush (v := 255) hx hb dX9_put_30 (by decide) ?_
  refine lv_iand hx hb dX9_put_33 ?_
  refine va_iastG hx hb hK hP hD hS 1 0 rfl rfl (vp_in_nI (show n0 + 2 < 420 by omega) (by decide)) dX9_put_34 (fun f_14 H locs hP hD hS => ?_)
  have hP : va_P (dC, dI) vwCl [(h0, .inr (10, [.ref h1, .int (nI (n0 + 2))])), (h1, .inl (k0, 420, .inl f_14))] H := hP
  have hD : va_D A [(h0, .inr (10, [.ref h1, .int (nI (n0 + 2))])), (h1, .inl (k0, 420, .inl f_14))] := hD
  refine lv_aload_n hx hb dX9_put_35 rfl (lv_at hl 1 rfl) ?_
  refine lv_dup hx hb dX9_put_36 rfl ?_
  refine va_get (D := (dC, dI)) (ci := 10) (v := .int (nI (n0 + 2))) (C := RX9) (T := TX9) (N := 2) hx hb hws inlX9 hown hK hP 0 rfl rfl 1 (by decide) (hws _ m_3_16) (fun _ h9 => h9) rfl dX9_put_37 ?_
  refine lv_iconst (v := 1) hx hb dX9_put_40 (by decide) ?_
  refine lv_iadd hx hb dX9_put_41 ?_
  refine lv_topi (fun x_15 ex_15 => ?_)
  obtain rfl : x_15 = nI (n0 + 3) := ex_15.trans (nI_add (n0 + 2) 1)
  refine va_put (D := (dC, dI)) (ci := 10) (v := .int (nI (n0 + 3))) (ty := .int) (C := RX9) (T := TX9) (N := 2) hx hb hws inlX9 tyX9 tyX9_ok nmX9 hown hK hP hD hS 0 rfl rfl 1 (by decide) (hws _ m_3_16) (fun _ h9 => h9) rfl (by decide +kernel) rfl rfl (Nat.le_of_ble_eq_true rfl) dX9_put_42 (fun H locs hP hD hS => ?_)
  have hP : va_P (dC, dI) vwCl [(h0, .inr (10, [.ref h1, .int (nI (n0 + 3))])), (h1, .inl (k0, 420, .inl f_14))] H := hP
  have hD : va_D A [(h0, .inr (10, [.ref h1, .int (nI (n0 + 3))])), (h1, .inl (k0, 420, .inl f_14))] := hD
  refine lv_iinc (v := 0) (lv' := [(2, .int 0), (0, .ref h0), (1, .int p0)]) hx hb dX9_put_45 hl (k := 0) rfl (by decide) (by decide) rfl (fun ls hl => ?_)
  refine lv_goto (tgt := 3) hx hb dX9_put_48 (by decide) ?_
  refine lv_iload_n hx hb dX9_put_3 rfl (lv_at hl 0 rfl) ?_
  refine lv_if_lt (tgt := 51) hx hb dX9_put_4 (by decide) (fun c_16 => absurd c_16 (by decide)) (fun _ => ?_)
  refine lv_aload_n hx hb dX9_put_7 rfl (lv_at hl 1 rfl) ?_
  refine va_get (D := (dC, dI)) (ci := 10) (v := .int (nI (n0 + 3))) (C := RX9) (T := TX9) (N := 2) hx hb hws inlX9 hown hK hP 0 rfl rfl 1 (by decide) (hws _ m_3_16) (fun _ h9 => h9) rfl dX9_put_8 ?_
  refine lv_aload_n hx hb dX9_put_11 rfl (lv_at hl 1 rfl) ?_
  refine va_get (D := (dC, dI)) (ci := 10) (v := .ref h1) (C := RX9) (T := TX9) (N := 2) hx hb hws inlX9 hown hK hP 0 rfl rfl 0 (by decide) (hws _ m_3_15) (fun _ h9 => h9) rfl dX9_put_12 ?_
  refine va_alen hx hb hK hP 1 0 rfl rfl (v := 420) rfl dX9_put_15 ?_
  refine lv_icmp_ge (tgt := 51) hx hb dX9_put_16 (by decide) (fun c_17 => absurd c_17 (nI_ge (a := n0 + 3) (b := 420) (by omega) (by omega))) (fun _ => ?_)
  refine lv_aload_n hx hb dX9_put_19 rfl (lv_at hl 1 rfl) ?_
  refine va_get (D := (dC, dI)) (ci := 10) (v := .ref h1) (C := RX9) (T := TX9) (N := 2) hx hb hws inlX9 hown hK hP 0 rfl rfl 0 (by decide) (hws _ m_3_15) (fun _ h9 => h9) rfl dX9_put_20 ?_
  refine lv_aload_n hx hb dX9_put_23 rfl (lv_at hl 1 rfl) ?_
  refine va_get (D := (dC, dI)) (ci := 10) (v := .int (nI (n0 + 3))) (C := RX9) (T := TX9) (N := 2) hx hb hws inlX9 hown hK hP 0 rfl rfl 1 (by decide) (hws _ m_3_16) (fun _ h9 => h9) rfl dX9_put_24 ?_
  refine lv_iload_n hx hb dX9_put_27 rfl (lv_at hl 2 rfl) ?_
  refine lv_iload_n hx hb dX9_put_28 rfl (lv_at hl 0 rfl) ?_
  refine lv_iushr hx hb dX9_put_29 rfl ?_
  refine lv_topi (fun x_18 _ => ?_)
  refine lv_sipush (v := 255) hx hb dX9_put_30 (by decide) ?_
  refine lv_iand hx hb dX9_put_33 ?_
  refine va_iastG hx hb hK hP hD hS 1 0 rfl rfl (vp_in_nI (show n0 + 3 < 420 by omega) (by decide)) dX9_put_34 (fun f_19 H locs hP hD hS => ?_)
  have hP : va_P (dC, dI) vwCl [(h0, .inr (10, [.ref h1, .int (nI (n0 + 3))])), (h1, .inl (k0, 420, .inl f_19))] H := hP
  have hD : va_D A [(h0, .inr (10, [.ref h1, .int (nI (n0 + 3))])), (h1, .inl (k0, 420, .inl f_19))] := hD
  refine lv_aload_n hx hb dX9_put_35 rfl (lv_at hl 1 rfl) ?_
  refine lv_dup hx hb dX9_put_36 rfl ?_
  refine va_get (D := (dC, dI)) (ci := 10) (v := .int (nI (n0 + 3))) (C := RX9) (T := TX9) (N := 2) hx hb hws inlX9 hown hK hP 0 rfl rfl 1 (by decide) (hws _ m_3_16) (fun _ h9 => h9) rfl dX9_put_37 ?_
  refine lv_iconst (v := 1) hx hb dX9_put_40 (by decide) ?_
  refine lv_iadd hx hb dX9_put_41 ?_
  refine lv_topi (fun x_20 ex_20 => ?_)
  obtain rfl : x_20 = nI (n0 + 4) := ex_20.trans (nI_add (n0 + 3) 1)
  refine va_put (D := (dC, dI)) (ci := 10) (v := .int (nI (n0 + 4))) (ty := .int) (C := RX9) (T := TX9) (N := 2) hx hb hws inlX9 tyX9 tyX9_ok nmX9 hown hK hP hD hS 0 rfl rfl 1 (by decide) (hws _ m_3_16) (fun _ h9 => h9) rfl (by decide +kernel) rfl rfl (Nat.le_of_ble_eq_true rfl) dX9_put_42 (fun H locs hP hD hS => ?_)
  have hP : va_P (dC, dI) vwCl [(h0, .inr (10, [.ref h1, .int (nI (n0 + 4))])), (h1, .inl (k0, 420, .inl f_19))] H := hP
  have hD : va_D A [(h0, .inr (10, [.ref h1, .int (nI (n0 + 4))])), (h1, .inl (k0, 420, .inl f_19))] := hD
  refine lv_iinc (v := (-8)) (lv' := [(2, .int (-8)), (0, .ref h0), (1, .int p0)]) hx hb dX9_put_45 hl (k := 0) rfl (by decide) (by decide) rfl (fun ls hl => ?_)
  refine lv_goto (tgt := 3) hx hb dX9_put_48 (by decide) ?_
  refine lv_iload_n hx hb dX9_put_3 rfl (lv_at hl 0 rfl) ?_
  refine lv_if_lt (tgt := 51) hx hb dX9_put_4 (by decide) (fun _ => ?_) (fun c_21 => absurd (by decide) c_21)
  have hK9 := hK.sub (tys' := [(k0, .int)]) [0] rfl
  exact W.vret hx hb hr (fun t ht hW => ⟨⟨(), rfl, trivial, ⟨(fun k9 => ([] : List (Nat)).getD k9 0), (fun k9 => ([] : List ClassId).getD k9 default), (fun k9 => ([f_19] : List (Nat → Int32)).getD k9 (fun _ => 0)), (fun k9 => ([] : List (Int32)).getD k9 0), (fun k9 => ([] : List (Nat → Nat)).getD k9 (fun _ => 0)), by rw [ht]; exact hP, va_K.moved hW.alike hK9, hD⟩⟩, hS.F ht⟩) hS.2.2 dX9_put_51
