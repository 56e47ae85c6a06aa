theorem m_39_18 : Cond.methodLink RJx4a65c 112 arraycopyName ∈ wsL_law := ch_39 _ (List.mem_of_getElem? (i := 18) rfl)
theorem m_39_19 : Cond.methodLink RJx4a65c 135 yJx4a65c_rangeCheckForAdd_d00df ∈ wsL_law := ch_39 _ (List.mem_of_getElem? (i := 19) rfl)
theorem m_39_20 : Cond.instanceMethod yJx4a65c_rangeCheckForAdd_d00df ∈ wsL_law := ch_39 _ (List.mem_of_getElem? (i := 20) rfl)
theorem m_39_21 : Cond.selects RJx4a65c yJx4a65c_rangeCheckForAdd_d00df yJx4a65c_rangeCheckForAdd_d00df ∈ wsL_law := ch_39 _ (List.mem_of_getElem? (i := 21) rfl)
theorem m_39_22 : Cond.code yJx4a65c_rangeCheckForAdd_d00df cJx4a65c_rangeCheckForAdd_d00df 2 none ∈ wsL_law := ch_39 _ (List.mem_of_getElem? (i := 22) rfl)
theorem kd40_0 : (decode cJx4a65c_add_7a177 0 = .ok (.aload_n 0, 1)) ∧ (decode cJx4a65c_add_7a177 1 = .ok (.iload_n 1, 1)) ∧ (decode cJx4a65c_add_7a177 2 = .ok (.invokevirtual 135, 3)) ∧ (decode cJx4a65c_add_7a177 5 = .ok (.aload_n 0, 1)) ∧ (decode cJx4a65c_add_7a177 6 = .ok (.dup, 1)) ∧ (decode cJx4a65c_add_7a177 7 = .ok (.getfield 63, 3)) ∧ (decode cJx4a65c_add_7a177 10 = .ok (.iconst 1, 1)) ∧ (decode cJx4a65c_add_7a177 11 = .ok (.iadd, 1)) ∧ (decode cJx4a65c_add_7a177 12 = .ok (.putfield 63, 3)) ∧ (decode cJx4a65c_add_7a177 15 = .ok (.aload_n 0, 1)) ∧ (decode cJx4a65c_add_7a177 16 = .ok (.getfield 48, 3)) ∧ (decode cJx4a65c_add_7a177 19 = .ok (.dup, 1)) := by decide +kernel
theorem kd40_1 : (decode cJx4a65c_add_7a177 20 = .ok (.istore_n 3, 1)) ∧ (decode cJx4a65c_add_7a177 21 = .ok (.aload_n 0, 1)) ∧ (decode cJx4a65c_add_7a177 22 = .ok (.getfield 9, 3)) ∧ (decode cJx4a65c_add_7a177 25 = .ok (.dup, 1)) ∧ (decode cJx4a65c_add_7a177 26 = .ok (.astore 4, 2)) ∧ (decode cJx4a65c_add_7a177 28 = .ok (.arraylength, 1)) ∧ (decode cJx4a65c_add_7a177 29 = .ok (.if_icmp .ne 9, 3)) ∧ (decode cJx4a65c_add_7a177 32 = .ok (.aload_n 0, 1)) ∧ (decode cJx4a65c_add_7a177 33 = .ok (.invokevirtual 129, 3)) ∧ (decode cJx4a65c_add_7a177 36 = .ok (.astore 4, 2)) ∧ (decode cJx4a65c_add_7a177 38 = .ok (.aload 4, 2)) ∧ (decode cJx4a65c_add_7a177 40 = .ok (.iload_n 1, 1)) := by decide +kernel
theorem kd40_2 : (decode cJx4a65c_add_7a177 41 = .ok (.aload 4, 2)) ∧ (decode cJx4a65c_add_7a177 43 = .ok (.iload_n 1, 1)) ∧ (decode cJx4a65c_add_7a177 44 = .ok (.iconst 1, 1)) ∧ (decode cJx4a65c_add_7a177 45 = .ok (.iadd, 1)) ∧ (decode cJx4a65c_add_7a177 46 = .ok (.iload_n 3, 1)) ∧ (decode cJx4a65c_add_7a177 47 = .ok (.iload_n 1, 1)) ∧ (decode cJx4a65c_add_7a177 48 = .ok (.isub, 1)) ∧ (decode cJx4a65c_add_7a177 49 = .ok (.invokestatic 112, 3)) ∧ (decode cJx4a65c_add_7a177 52 = .ok (.aload 4, 2)) ∧ (decode cJx4a65c_add_7a177 54 = .ok (.iload_n 1, 1)) ∧ (decode cJx4a65c_add_7a177 55 = .ok (.aload_n 2, 1)) ∧ (decode cJx4a65c_add_7a177 56 = .ok (.aastore, 1)) := by decide +kernel
theorem kd40_3 : (decode cJx4a65c_add_7a177 57 = .ok (.aload_n 0, 1)) ∧ (decode cJx4a65c_add_7a177 58 = .ok (.iload_n 3, 1)) ∧ (decode cJx4a65c_add_7a177 59 = .ok (.iconst 1, 1)) ∧ (decode cJx4a65c_add_7a177 60 = .ok (.iadd, 1)) ∧ (decode cJx4a65c_add_7a177 61 = .ok (.putfield 48, 3)) ∧ (decode cJx4a65c_add_7a177 64 = .ok (.return_, 1)) ∧ (decode cJx4a65c_clear_da8c8 0 = .ok (.aload_n 0, 1)) ∧ (decode cJx4a65c_clear_da8c8 1 = .ok (.dup, 1)) ∧ (decode cJx4a65c_clear_da8c8 2 = .ok (.getfield 63, 3)) ∧ (decode cJx4a65c_clear_da8c8 5 = .ok (.iconst 1, 1)) ∧ (decode cJx4a65c_clear_da8c8 6 = .ok (.iadd, 1)) ∧ (decode cJx4a65c_clear_da8c8 7 = .ok (.putfield 63, 3)) := by decide +kernel
theorem kd40_4 : (decode cJx4a65c_clear_da8c8 10 = .ok (.aload_n 0, 1)) ∧ (decode cJx4a65c_clear_da8c8 11 = .ok (.getfield 9, 3)) ∧ (decode cJx4a65c_clear_da8c8 14 = .ok (.astore_n 1, 1)) ∧ (decode cJx4a65c_clear_da8c8 15 = .ok (.aload_n 0, 1)) ∧ (decode cJx4a65c_clear_da8c8 16 = .ok (.getfield 48, 3)) ∧ (decode cJx4a65c_clear_da8c8 19 = .ok (.istore_n 2, 1)) ∧ (decode cJx4a65c_clear_da8c8 20 = .ok (.aload_n 0, 1)) ∧ (decode cJx4a65c_clear_da8c8 21 = .ok (.iconst 0, 1)) ∧ (decode cJx4a65c_clear_da8c8 22 = .ok (.dup_x1, 1)) ∧ (decode cJx4a65c_clear_da8c8 23 = .ok (.putfield 48, 3)) ∧ (decode cJx4a65c_clear_da8c8 26 = .ok (.istore_n 3, 1)) ∧ (decode cJx4a65c_clear_da8c8 27 = .ok (.iload_n 3, 1)) := by decide +kernel
theorem kd40_5 : (decode cJx4a65c_clear_da8c8 28 = .ok (.iload_n 2, 1)) ∧ (decode cJx4a65c_clear_da8c8 29 = .ok (.if_icmp .ge 13, 3)) ∧ (decode cJx4a65c_clear_da8c8 32 = .ok (.aload_n 1, 1)) ∧ (decode cJx4a65c_clear_da8c8 33 = .ok (.iload_n 3, 1)) ∧ (decode cJx4a65c_clear_da8c8 34 = .ok (.aconst_null, 1)) ∧ (decode cJx4a65c_clear_da8c8 35 = .ok (.aastore, 1)) ∧ (decode cJx4a65c_clear_da8c8 36 = .ok (.iinc 3 1, 3)) ∧ (decode cJx4a65c_clear_da8c8 39 = .ok (.goto (-12), 3)) ∧ (decode cJx4a65c_clear_da8c8 42 = .ok (.return_, 1)) ∧ (decode cJx4a65c_rangeCheckForAdd_d00df 0 = .ok (.iload_n 1, 1)) ∧ (decode cJx4a65c_rangeCheckForAdd_d00df 1 = .ok (.aload_n 0, 1)) ∧ (decode cJx4a65c_rangeCheckForAdd_d00df 2 = .ok (.getfield 48, 3)) := by decide +kernel
theorem kd40_6 : (decode cJx4a65c_rangeCheckForAdd_d00df 5 = .ok (.if_icmp .gt 7, 3)) ∧ (decode cJx4a65c_rangeCheckForAdd_d00df 8 = .ok (.iload_n 1, 1)) ∧ (decode cJx4a65c_rangeCheckForAdd_d00df 9 = .ok (.ifCond .ge 16, 3)) ∧ (decode cJx4a65c_rangeCheckForAdd_d00df 25 = .ok (.return_, 1)) := by decide +kernel
theorem lk_Jx4a65c_135 : xLV RJx4a65c 135 yJx4a65c_rangeCheckForAdd_d00df cJx4a65c_rangeCheckForAdd_d00df 2 none 1 := ⟨m_39_19, m_39_20, m_39_21, m_2_5, m_39_22, by decide +kernel⟩
theorem xcpy_in {f g : Nat → Value} {sp dp n k : Nat} (h : dp ≤ k ∧ k < dp + n) : va_cpy f g sp dp n k = f (sp + (k - dp)) := by
  unfold va_cpy
  exact if_pos h
theorem xcpy_out {f g : Nat → Value} {sp dp n k : Nat} (h : ¬ (dp ≤ k ∧ k < dp + n)) : va_cpy f g sp dp n k = g k := by
  unfold va_cpy
  exact if_neg h
def xQk (S : xT) (g : xG) (q c s : Nat) : Prop := ∃ (n : Nat) (z : Int), xALn S g q 10403 2 200 n z ∧ c ≤ xrk n ∧ s ≤ xsk n
theorem xQk.le {S : xT} {g : xG} {q c s : Nat} (h : xQk S g q c s) : c ≤ 9 ∧ s ≤ 718 := by
  obtain ⟨n, z, ha, h1, h2⟩ := h
  have hn : n ∈ xcaps := by obtain ⟨_, _, _, h, _⟩ := ha; exact h
  have := xrk_le hn
  omega
theorem xQk.cg {S : xT} {g : xG} {q c s c' s' : Nat} (h : xQk S g q c s) (e1 : c = c') (e2 : s = s') : xQk S g q c' s' := e1 ▸ e2 ▸ h
theorem xQk_0 {S : xT} {g : xG} {q : Nat} (h : xLs S g) (hs : S q = some (200, 0)) : xQk S g q 0 0 := by
  obtain ⟨n, z, ha⟩ := xAL.n ((xLs_200 h).2 q 0 hs)
  exact ⟨n, z, ha, Nat.zero_le _, Nat.zero_le _⟩
theorem xQk_mod {S : xT} {g g1 : xG} {q c s : Nat} {L : List (Nat × Nat)} (h : xQk S g q c s) (hs : S q = some (200, 0)) (hm : xM L S g g1) (hn : L.all xnl = true) : xQk S g1 q c s := by
  obtain ⟨-, -, ⟨c1, c2, c3⟩, -⟩ := xnl_n hn
  obtain ⟨n, z, ha, h1, h2⟩ := h
  exact ⟨n, z, ha.same (hm q 200 0 1 hs (by rw [xky_o (by decide)]; exact c1)) (hm q 200 0 2 hs (by rw [xky_o (by decide)]; exact c2)) (fun b m hb k => hm b 10403 m k hb (by rw [xky_a (by decide)]; exact c3)), h1, h2⟩
theorem xLs_set0 {S : xT} {g g1 : xG} {a : Nat} (h : xLs S g) (hm : xM [(200, 0), (200, 2), (10403, 0)] S g g1) (hs : S a = some (200, 0)) (hal : xAL S g1 a 10403 2 200) : xLs S g1 :=
  xLs_set_200 h (fun b t n k hb hk => hm b t n k hb (fun q => hk (by revert q; generalize xky t k = x; intro q; simp only [List.mem_cons, List.not_mem_nil, or_false] at q ⊢; rcases q with q | q | q <;> simp [q]))) xLe.rf xNw2.rf hs hal
set_option maxHeartbeats 4000000 in
set_option maxRecDepth 100000 in
theorem c_Jx4a65c_rangeCheckForAdd_d00df (l : Launch) (D : va_G) (kA : Nat → ClassId) (b0 : Nat) (t0 : Nat → Nat) (S : xT) (g : xG) (a0 : Nat) (x1 : Int) (n0 : Int) (hs_a0 : S a0 = some (200, 0)) (hx1 : 0 ≤ x1 ∧ x1 ≤ 200) (hn0 : 0 ≤ n0 ∧ n0 ≤ 2147483647) (en0 : g a0 2 = .int (iI n0)) (hp0 : x1 ≤ n0) : xMt l yJx4a65c_rangeCheckForAdd_d00df cJx4a65c_rangeCheckForAdd_d00df 2 none 0 0 0 0 D kA b0 t0 [] [.ref a0, .int (iI x1)] S g (fun (r : Option Value) (S1 : xT) (g1 : xG) => S = S1 ∧ g = g1 ∧ r = none) := by
  refine xEnterV (by decide) (by simp [lg_sl, Value.category]) [(0, .ref a0), (1, .int (iI x1))] rfl ?_
  intro K E hK hret _ _ _
  refine X_iloadn hK (i := 1) 1 kd40_5.2.2.2.2.2.2.2.2.2.1 rfl rfl ?_
  refine X_aloadn hK (i := 0) 0 kd40_5.2.2.2.2.2.2.2.2.2.2.1 rfl rfl ?_
  refine X_getK hK fl_Jx4a65c_48_200 hs_a0 en0 kd40_5.2.2.2.2.2.2.2.2.2.2.2 ?_
  refine X_icmp_gt hK 12 (by omega) (by omega) kd40_6.1 (by decide) (fun c1 => False.elim (by omega)) (fun c1 => ?_)
  refine X_iloadn hK (i := 1) 1 kd40_6.2.1 rfl rfl ?_
  refine X_if_ge hK 25 (by omega) kd40_6.2.2.1 (by decide) (fun c2 => ?_) (fun c2 => False.elim (by omega))
  exact hret _ _ _ _ _ _ kd40_6.2.2.2 ⟨rfl, rfl, rfl⟩ (Nat.le_refl _) (Nat.le_refl _)

set_option maxHeartbeats 4000000 in
set_option maxRecDepth 100000 in
theorem c_clearW (l : Launch) (D : va_G) (kA : Nat → ClassId) (b0 : Nat) (t0 : Nat → Nat) (S : xT) (g : xG) (a0 : Nat) (c9 s9 : Nat) (hs_a0 : S a0 = some (200, 0)) (hp0 : xLs S g) (hp1 : xQk S g a0 c9 s9) : xMt l yJx4a65c_clear_da8c8 cJx4a65c_clear_da8c8 4 none 0 0 0 0 D kA b0 t0 [(200, 0), (200, 2), (10403, 0)] [.ref a0] S g (fun (r : Option Value) (S1 : xT) (g1 : xG) => S = S1 ∧ r = none ∧ (xLs S g1) ∧ (xQk S g1 a0 c9 s9) ∧ (g1 a0 2 = .int (iI 0))) := by
  refine xEnterV (by decide) (by simp [lg_sl, Value.category]) [(0, .ref a0)] rfl ?_
  intro K E hK hret _ _ _
  obtain ⟨n, z, hal, hc9, hs9⟩ := id hp1
  refine X_aloadn hK (i := 0) 0 kd40_3.2.2.2.2.2.2.1 rfl rfl ?_
  refine X_dup hK kd40_3.2.2.2.2.2.2.2.1 rfl ?_
  refine X_geti hK fl_Jx4a65c_63_200 hs_a0 sl_200_0 kd40_3.2.2.2.2.2.2.2.2.1 (fun m em lm um => ?_)
  refine X_iconst hK kd40_3.2.2.2.2.2.2.2.2.2.1 ?_
  refine X_iadd hK kd40_3.2.2.2.2.2.2.2.2.2.2.1 ?_
  refine X_norm (fun m2 em2 lm2 um2 => ?_)
  refine X_puti hK fl_Jx4a65c_63_200 hs_a0 (by decide) sl_200_0 (by omega) (by omega) kd40_3.2.2.2.2.2.2.2.2.2.2.2 (fun g1 hg1 => ?_)
  have hal1 : xALn S g1 a0 10403 2 200 n z := hal.same (xs_k hg1 (by decide)) (xs_k hg1 (by decide)) (fun c m hc k => xs_a hg1 (xne hc hs_a0 (by simp)))
  obtain ⟨b, eb, hb, hn, ez, q0, qq1, q2, hel⟩ := id hal1
  have hcap := xcaps_le hn
  refine X_aloadn hK (i := 0) 0 kd40_4.1 rfl rfl ?_
  refine X_getK hK fl_Jx4a65c_9_200 hs_a0 eb kd40_4.2.1 ?_
  refine X_astoren hK (i := 1) [(1, .ref b), (0, .ref a0)] kd40_4.2.2.1 rfl (by decide) rfl ?_
  refine X_aloadn hK (i := 0) 1 kd40_4.2.2.2.1 rfl rfl ?_
  refine X_getK hK fl_Jx4a65c_48_200 hs_a0 ez kd40_4.2.2.2.2.1 ?_
  refine X_istoren hK (i := 2) [(2, .int (iI z)), (1, .ref b), (0, .ref a0)] kd40_4.2.2.2.2.2.1 rfl (by decide) rfl ?_
  refine X_aloadn hK (i := 0) 2 kd40_4.2.2.2.2.2.2.1 rfl rfl ?_
  refine X_iconst hK kd40_4.2.2.2.2.2.2.2.1 ?_
  refine X_dupx1 hK kd40_4.2.2.2.2.2.2.2.2.1 rfl rfl ?_
  refine X_puti hK fl_Jx4a65c_48_200 hs_a0 (by decide) sl_200_2 (by omega) (by omega) kd40_4.2.2.2.2.2.2.2.2.2.1 (fun g2 hg2 => ?_)
  refine X_istoren hK (i := 3) [(3, .int (iI 0)), (2, .int (iI z)), (1, .ref b), (0, .ref a0)] kd40_4.2.2.2.2.2.2.2.2.2.2.1 rfl (by decide) rfl ?_
  have P : ∀ (m : Nat) (g3 : xG) (i : Int) (_ : xM [(200, 0), (200, 2), (10403, 0)] S g g3) (_ : g3 a0 1 = .ref b) (_ : g3 a0 2 = .int (iI 0)) (_ : 0 ≤ i) (_ : i ≤ z) (_ : z - i < m), X K E 27 [(3, .int (iI i)), (2, .int (iI z)), (1, .ref b), (0, .ref a0)] [] S g3 0 0 := by
    intro m
    induction m with
    | zero => intro g3 i h1 h2 h3 h4 h5 h6; exact False.elim (by omega)
    | succ m ih =>
      intro g3 i h1 h2 h3 h4 h5 h6
      refine X_iloadn hK (i := 3) 0 kd40_4.2.2.2.2.2.2.2.2.2.2.2 rfl rfl ?_
      refine X_iloadn hK (i := 2) 1 kd40_5.1 rfl rfl ?_
      refine X_icmp_ge hK 42 (by omega) (by omega) kd40_5.2.1 (by decide) (fun c => ?_) (fun c => ?_)
      · have ha : xALn S g3 a0 10403 2 200 n 0 := ⟨b, h2, hb, hn, h3, by omega, by omega, by omega, fun k hk => False.elim (by omega)⟩
        exact hret _ _ _ _ _ _ kd40_5.2.2.2.2.2.2.2.2.1 ⟨rfl, rfl, xLs_set0 hp0 h1 hs_a0 ha.al, ⟨n, 0, ha, hc9, hs9⟩, h3⟩ (Nat.le_refl _) (Nat.le_refl _)
      · rcases hb with ⟨hb, hnz⟩ | ⟨hb, hnz⟩
        · refine X_aloadn hK (i := 1) 2 kd40_5.2.2.1 rfl rfl ?_
          refine X_iloadn hK (i := 3) 0 kd40_5.2.2.2.1 rfl rfl ?_
          refine X_null hK kd40_5.2.2.2.2.1 ?_
          refine X_nast hK hb ⟨by decide, by decide, by decide, by omega⟩ sl_10403 (by decide) (by omega) (by omega) kd40_5.2.2.2.2.2.1 (fun g4 hg4 => ?_)
          refine X_iinc hK (i := 3) (z := i) (n := 1) 0 [(3, .int (iI (i + 1))), (2, .int (iI z)), (1, .ref b), (0, .ref a0)] kd40_5.2.2.2.2.2.2.1 rfl (by decide) rfl ?_
          refine X_goto hK 27 kd40_5.2.2.2.2.2.2.2.1 (by decide) ?_
          have hab : a0 ≠ b := xne hs_a0 hb (by simp)
          exact ih g4 (i + 1) (xM_ua h1 hg4 hb (by decide) (by decide)) ((xs_a hg4 hab).trans h2) ((xs_a hg4 hab).trans h3) (by omega) (by omega) (by omega)
        · exact False.elim (by omega)
  have hab1 : ∀ k, (k = 1 → g2 a0 k = .ref b) := fun k hk => by subst hk; rw [xs_k hg2 (by decide)]; exact eb
  exact P ((z : Int).toNat + 1) g2 0 (xM_up (xM_up xM.rf hg1 hs_a0 (by decide) (by decide)) hg2 hs_a0 (by decide) (by decide)) (hab1 1 rfl) (xs_s hg2) (by omega) (by omega) (by omega)

set_option maxHeartbeats 4000000 in
set_option maxRecDepth 100000 in
theorem c_addI (l : Launch) (D : va_G) (kA : Nat → ClassId) (b0 : Nat) (t0 : Nat → Nat) (S : xT) (g : xG) (a0 a2 n : Nat) (x1 z : Int) (hs_a0 : S a0 = some (200, 0)) (hs_a2 : S a2 = some (2, 0)) (hal : xALn S g a0 10403 2 200 n z) (hz : z < 200) (hx : 0 ≤ x1 ∧ x1 ≤ z) (hem : xEm S t0) : xMu l yJx4a65c_add_7a177 cJx4a65c_add_7a177 5 none 6 1 244 143 D kA b0 t0 [(200, 0), (200, 1), (200, 2), (10403, 0)] [.ref a0, .int (iI x1), .ref a2] S g (fun (r : Option Value) (S1 : xT) (g1 : xG) (dc ds : Nat) => r = none ∧ xNw2 S S1 [10403] ∧ ∃ n1 : Nat, xALn S1 g1 a0 10403 2 200 n1 (z + 1) ∧ xrk n ≤ xrk n1 ∧ xsk n ≤ xsk n1 ∧ dc + xrk n = xrk n1 ∧ ds + xsk n = xsk n1 ∧ dc ≤ 1 ∧ ds ≤ 244) := by
  refine xEnterUV (by decide) (by simp [lg_sl, Value.category]) [(0, .ref a0), (1, .int (iI x1)), (2, .ref a2)] rfl ?_
  intro K E hK hret hS0 _ _ ht
  subst ht
  have ez0 : g a0 2 = .int (iI z) := by obtain ⟨_, _, _, _, e, _⟩ := hal; exact e
  refine X_aloadn hK (i := 0) 0 kd40_0.1 rfl rfl ?_
  refine X_iloadn hK (i := 1) 1 kd40_0.2.1 rfl rfl ?_
  refine X_callV hK [.int (iI x1)] [] lk_Jx4a65c_135 (c_Jx4a65c_rangeCheckForAdd_d00df _ _ _ _ _ S g a0 x1 z hs_a0 (by omega) (by omega) ez0 (by omega)) hs_a0 ⟨by decide, rfl⟩ kd40_0.2.2.1 rfl rfl (by simp [Value.category]) (by decide) (by omega) (by omega) (by decide) (fun r0 S0 g0 p0 q0 h0 => ?_)
  obtain ⟨rfl, rfl, rfl⟩ := p0
  refine X_st [] rfl ?_
  refine X_aloadn hK (i := 0) 0 kd40_0.2.2.2.1 rfl rfl ?_
  refine X_dup hK kd40_0.2.2.2.2.1 rfl ?_
  refine X_geti hK fl_Jx4a65c_63_200 hs_a0 sl_200_0 kd40_0.2.2.2.2.2.1 (fun m em lm um => ?_)
  refine X_iconst hK kd40_0.2.2.2.2.2.2.1 ?_
  refine X_iadd hK kd40_0.2.2.2.2.2.2.2.1 ?_
  refine X_norm (fun m2 em2 lm2 um2 => ?_)
  refine X_puti hK fl_Jx4a65c_63_200 hs_a0 (by decide) sl_200_0 (by omega) (by omega) kd40_0.2.2.2.2.2.2.2.2.1 (fun g1 hg1 => ?_)
  have hal1 : xALn S g1 a0 10403 2 200 n z := hal.same (xs_k hg1 (by decide)) (xs_k hg1 (by decide)) (fun c m hc k => xs_a hg1 (xne hc hs_a0 (by simp)))
  obtain ⟨b, eb, hb, hn, ez, q0, qq1, q2, hel⟩ := id hal1
  have hc := xcaps_le hn
  refine X_aloadn hK (i := 0) 0 kd40_0.2.2.2.2.2.2.2.2.2.1 rfl rfl ?_
  refine X_getK hK fl_Jx4a65c_48_200 hs_a0 ez kd40_0.2.2.2.2.2.2.2.2.2.2.1 ?_
  refine X_dup hK kd40_0.2.2.2.2.2.2.2.2.2.2.2 rfl ?_
  refine X_istoren hK (i := 3) [(3, .int (iI z)), (0, .ref a0), (1, .int (iI x1)), (2, .ref a2)] kd40_1.1 rfl (by decide) rfl ?_
  refine X_aloadn hK (i := 0) 1 kd40_1.2.1 rfl rfl ?_
  refine X_getK hK fl_Jx4a65c_9_200 hs_a0 eb kd40_1.2.2.1 ?_
  refine X_dup hK kd40_1.2.2.2.1 rfl ?_
  refine X_astore hK (i := 4) [(4, .ref b), (3, .int (iI z)), (0, .ref a0), (1, .int (iI x1)), (2, .ref a2)] kd40_1.2.2.2.2.1 (by decide) rfl ?_
  have hgrow : z = (n : Int) → X K E 32 [(4, .ref b), (3, .int (iI z)), (0, .ref a0), (1, .int (iI x1)), (2, .ref a2)] [] S g1 0 0 := by
    intro hzn
    have hn2 : n ≤ 200 := by omega
    have hcn := xcn_in hn hn2
    have hrk := xrk_s hn hn2
    refine X_aloadn hK (i := 0) 2 kd40_1.2.2.2.2.2.2.2.1 rfl rfl ?_
    refine X_callVU hK [] [] lk_Jx4a65c_129 (c_grow0_200 _ _ _ _ _ S g1 a0 b n hs_a0 eb hb hn hn2 hem (by rw [ez, hzn])) hs_a0 ⟨by decide, rfl⟩ kd40_1.2.2.2.2.2.2.2.2.1 rfl rfl (by simp [Value.category]) (by decide) (by omega) (by omega) (by decide) (fun r1 S1 g2 dc1 ds1 p1 q1 h1 => ?_)
    obtain ⟨q, rfl, hq, k2, k3, k4, k5, k6, k7⟩ := p1
    refine X_st [.ref q] rfl ?_
    have hs_q : S1 q = some (10403, xcn n) := by rw [k2]; exact xset_s _ _ _
    have nwq : xNw2 S S1 [10403] := by rw [k2]; exact xNw2.set (by decide)
    have hel1 : ∀ k : Nat, (k : Int) < z → ∃ e : Nat, g2 q k = .ref e ∧ S1 e = some (2, 0) := fun k hk => by
      obtain ⟨e, w1, w2⟩ := hel k hk
      exact ⟨e, by rw [k5 k (by omega)]; exact w1, q1 _ _ w2⟩
    refine X_astore hK (i := 4) [(4, .ref q), (3, .int (iI z)), (0, .ref a0), (1, .int (iI x1)), (2, .ref a2)] kd40_1.2.2.2.2.2.2.2.2.2.1 (by decide) rfl ?_
    refine X_aload hK (i := 4) 0 kd40_1.2.2.2.2.2.2.2.2.2.2.1 rfl ?_
    refine X_iloadn hK (i := 1) 3 kd40_1.2.2.2.2.2.2.2.2.2.2.2 rfl rfl ?_
    refine X_aload hK (i := 4) 0 kd40_2.1 rfl ?_
    refine X_iloadn hK (i := 1) 3 kd40_2.2.1 rfl rfl ?_
    refine X_iconst hK kd40_2.2.2.1 ?_
    refine X_iadd hK kd40_2.2.2.2.1 ?_
    refine X_iloadn hK (i := 3) 1 kd40_2.2.2.2.2.1 rfl rfl ?_
    refine X_iloadn hK (i := 1) 3 kd40_2.2.2.2.2.2.1 rfl rfl ?_
    refine X_isub hK kd40_2.2.2.2.2.2.2.1 ?_
    refine X_copyO hK ⟨m_39_18, m_15_4, m_15_5, m_15_6⟩ hs_q hs_q (by decide) ⟨by decide, rfl⟩ (fun _ _ h => h.2.2.1) sl_10403 (Or.inr (by decide)) (by omega) (by omega) (by omega) ⟨by decide, by simp [Value.category]; decide⟩ kd40_2.2.2.2.2.2.2.2.1 (fun g5 hg5 => ?_)
    refine X_aload hK (i := 4) 0 kd40_2.2.2.2.2.2.2.2.2.1 rfl ?_
    refine X_iloadn hK (i := 1) 3 kd40_2.2.2.2.2.2.2.2.2.2.1 rfl rfl ?_
    refine X_aloadn hK (i := 2) 4 kd40_2.2.2.2.2.2.2.2.2.2.2.1 rfl rfl ?_
    refine X_oast hK hs_q (q1 _ _ hs_a2) ⟨by decide, by decide, by decide, by omega⟩ ⟨by decide, rfl⟩ (fun _ _ h => h.2.2.1) sl_10403 (by decide) (by omega) (by omega) kd40_2.2.2.2.2.2.2.2.2.2.2.2 (fun g6 hg6 => ?_)
    refine X_aloadn hK (i := 0) 2 kd40_3.1 rfl rfl ?_
    refine X_iloadn hK (i := 3) 1 kd40_3.2.1 rfl rfl ?_
    refine X_iconst hK kd40_3.2.2.1 ?_
    refine X_iadd hK kd40_3.2.2.2.1 ?_
    refine X_puti hK fl_Jx4a65c_48_200 (q1 _ _ hs_a0) (by decide) sl_200_2 (by omega) (by omega) kd40_3.2.2.2.2.1 (fun g7 hg7 => ?_)
    have hab : a0 ≠ q := xne (q1 _ _ hs_a0) hs_q (by simp)
    have hg5b : g5 q = va_cpy (g2 q) (g2 q) x1.toNat (x1 + 1).toNat (z - x1).toNat := by rw [hg5, xrow_s]
    refine hret _ _ _ _ _ _ kd40_3.2.2.2.2.2.1 ⟨rfl, nwq, (xcn n), ⟨q, ?_, Or.inl ⟨hs_q, by omega⟩, hcn.1, xs_s hg7, (by omega), (by omega), (by omega), fun k hk => ?_⟩, (by omega), (by omega), (by omega), (by omega), (by omega), (by omega)⟩ (by omega) (by omega)
    · rw [xs_k hg7 (by decide), xs_a hg6 hab, hg5, xrow_o hab]; exact k4
    · rw [xs_a hg7 (Ne.symm hab), hg6]
      rcases (show k = x1.toNat ∨ k ≠ x1.toNat by omega) with e | e
      · rw [e, xup_s]; exact ⟨a2, rfl, (q1 _ _ hs_a2)⟩
      · rw [xup_k e, hg5b]
        rcases (show ((x1 + 1).toNat ≤ k ∧ k < (x1 + 1).toNat + (z - x1).toNat) ∨ ¬ ((x1 + 1).toNat ≤ k ∧ k < (x1 + 1).toNat + (z - x1).toNat) by omega) with w | w
        · rw [xcpy_in w]; exact hel1 _ (by omega)
        · rw [xcpy_out w]; exact hel1 _ (by omega)
  rcases hb with ⟨hb, hnz⟩ | ⟨hb, h0⟩
  · refine X_alen hK (i := 3) (ty := .object "java/lang/Object") hb (by decide) (by decide) (fun _ => rfl) kd40_1.2.2.2.2.2.1 ?_
    refine X_icmp_ne hK 38 (by omega) (by omega) kd40_1.2.2.2.2.2.2.1 (by decide) (fun c1 => ?_) (fun c1 => hgrow c1)
    refine X_aload hK (i := 4) 0 kd40_1.2.2.2.2.2.2.2.2.2.2.1 rfl ?_
    refine X_iloadn hK (i := 1) 3 kd40_1.2.2.2.2.2.2.2.2.2.2.2 rfl rfl ?_
    refine X_aload hK (i := 4) 0 kd40_2.1 rfl ?_
    refine X_iloadn hK (i := 1) 3 kd40_2.2.1 rfl rfl ?_
    refine X_iconst hK kd40_2.2.2.1 ?_
    refine X_iadd hK kd40_2.2.2.2.1 ?_
    refine X_iloadn hK (i := 3) 1 kd40_2.2.2.2.2.1 rfl rfl ?_
    refine X_iloadn hK (i := 1) 3 kd40_2.2.2.2.2.2.1 rfl rfl ?_
    refine X_isub hK kd40_2.2.2.2.2.2.2.1 ?_
    refine X_copyO hK ⟨m_39_18, m_15_4, m_15_5, m_15_6⟩ hb hb (by decide) ⟨by decide, rfl⟩ (fun _ _ h => h.2.2.1) sl_10403 (Or.inr (by decide)) (by omega) (by omega) (by omega) ⟨by decide, by simp [Value.category]; decide⟩ kd40_2.2.2.2.2.2.2.2.1 (fun g5 hg5 => ?_)
    refine X_aload hK (i := 4) 0 kd40_2.2.2.2.2.2.2.2.2.1 rfl ?_
    refine X_iloadn hK (i := 1) 3 kd40_2.2.2.2.2.2.2.2.2.2.1 rfl rfl ?_
    refine X_aloadn hK (i := 2) 4 kd40_2.2.2.2.2.2.2.2.2.2.2.1 rfl rfl ?_
    refine X_oast hK hb hs_a2 ⟨by decide, by decide, by decide, by omega⟩ ⟨by decide, rfl⟩ (fun _ _ h => h.2.2.1) sl_10403 (by decide) (by omega) (by omega) kd40_2.2.2.2.2.2.2.2.2.2.2.2 (fun g6 hg6 => ?_)
    refine X_aloadn hK (i := 0) 2 kd40_3.1 rfl rfl ?_
    refine X_iloadn hK (i := 3) 1 kd40_3.2.1 rfl rfl ?_
    refine X_iconst hK kd40_3.2.2.1 ?_
    refine X_iadd hK kd40_3.2.2.2.1 ?_
    refine X_puti hK fl_Jx4a65c_48_200 hs_a0 (by decide) sl_200_2 (by omega) (by omega) kd40_3.2.2.2.2.1 (fun g7 hg7 => ?_)
    have hab : a0 ≠ b := xne hs_a0 hb (by simp)
    have hg5b : g5 b = va_cpy (g1 b) (g1 b) x1.toNat (x1 + 1).toNat (z - x1).toNat := by rw [hg5, xrow_s]
    refine hret _ _ _ _ _ _ kd40_3.2.2.2.2.2.1 ⟨rfl, xNw2.rf, n, ⟨b, ?_, Or.inl ⟨hb, by omega⟩, hn, xs_s hg7, (by omega), (by omega), (by omega), fun k hk => ?_⟩, (by omega), (by omega), (by omega), (by omega), (by omega), (by omega)⟩ (by omega) (by omega)
    · rw [xs_k hg7 (by decide), xs_a hg6 hab, hg5, xrow_o hab]; exact eb
    · rw [xs_a hg7 (Ne.symm hab), hg6]
      rcases (show k = x1.toNat ∨ k ≠ x1.toNat by omega) with e | e
      · rw [e, xup_s]; exact ⟨a2, rfl, hs_a2⟩
      · rw [xup_k e, hg5b]
        rcases (show ((x1 + 1).toNat ≤ k ∧ k < (x1 + 1).toNat + (z - x1).toNat) ∨ ¬ ((x1 + 1).toNat ≤ k ∧ k < (x1 + 1).toNat + (z - x1).toNat) by omega) with w | w
        · rw [xcpy_in w]; exact hel _ (by omega)
        · rw [xcpy_out w]; exact hel _ (by omega)
  · subst h0
    refine X_alen hK (i := 3) (ty := .object "java/lang/Object") hb (by decide) (by decide) (fun _ => rfl) kd40_1.2.2.2.2.2.1 ?_
    refine X_icmp_ne hK 38 (by omega) (by omega) kd40_1.2.2.2.2.2.2.1 (by decide) (fun c1 => False.elim (by omega)) (fun c1 => hgrow c1)

set_option maxHeartbeats 4000000 in
set_option maxRecDepth 100000 in
theorem c_addQ (l : Launch) (D : va_G) (kA : Nat → ClassId) (b0 : Nat) (t0 : Nat → Nat) (S : xT) (g : xG) (a0 : Nat) (x1 : Int) (a2 : Nat) (n0 : Int) (c9 s9 : Nat) (hs_a0 : S a0 = some (200, 0)) (hx1 : 0 ≤ x1 ∧ x1 ≤ 199) (hs_a2 : S a2 = some (2, 0)) (hn0 : 0 ≤ n0 ∧ n0 ≤ 199) (en0 : g a0 2 = .int (iI n0)) (hp0 : xLs S g) (hp1 : xSi S t0) (hp2 : xQk S g a0 c9 s9) (hp3 : x1 ≤ n0) : xMu l yJx4a65c_add_7a177 cJx4a65c_add_7a177 5 none 6 1 244 143 D kA b0 t0 [(200, 0), (200, 1), (200, 2), (10403, 0)] [.ref a0, .int (iI x1), .ref a2] S g (fun (r : Option Value) (S1 : xT) (g1 : xG) (dc ds : Nat) => xNw2 S S1 [10403] ∧ r = none ∧ (xLs S1 g1) ∧ (xQk S1 g1 a0 (c9 + dc) (s9 + ds)) ∧ (g1 a0 2 = .int (iI (n0 + 1))) ∧ (dc ≤ 1 ∧ ds ≤ 244)) := by
  obtain ⟨n, z, hal, hc9, hs9⟩ := id hp2
  have hz : n0 = z := by obtain ⟨_, _, _, _, e, q0, _, q2, _⟩ := hal; exact xinj en0 e (by omega) (by omega)
  subst hz
  refine (c_addI l D kA b0 t0 S g a0 a2 n x1 n0 hs_a0 hs_a2 hal (by omega) (by omega) hp1.1).mono (fun r S1 g1 dc ds hp hle hm => ?_)
  obtain ⟨rfl, nw, n1, ha, k1, k2, k3, k4, k5, k6⟩ := hp
  have ha2 : g1 a0 2 = .int (iI (n0 + 1)) := by obtain ⟨_, _, _, _, e, _⟩ := ha; exact e
  exact ⟨nw, rfl, xLs_set_200 hp0 hm hle nw hs_a0 ha.al, ⟨n1, n0 + 1, ha, (by omega), (by omega)⟩, ha2, k5, k6⟩
