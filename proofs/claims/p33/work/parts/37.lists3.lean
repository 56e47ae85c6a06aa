theorem m_13_7 : Cond.fieldLink RJx4a65c 63 "java/util/ArrayList" "modCount" "I" ∈ wsL_law := ch_13 _ (List.mem_of_getElem? (i := 7) rfl)
theorem m_13_8 : Cond.sameField "java/util/ArrayList" "java/util/AbstractList" "modCount" "I" ∈ wsL_law := ch_13 _ (List.mem_of_getElem? (i := 8) rfl)
theorem m_13_9 : Cond.methodLink RJx4a65c 131 yJx4a65c_add_72be8 ∈ wsL_law := ch_13 _ (List.mem_of_getElem? (i := 9) rfl)
theorem m_13_10 : Cond.instanceMethod yJx4a65c_add_72be8 ∈ wsL_law := ch_13 _ (List.mem_of_getElem? (i := 10) rfl)
theorem m_13_11 : Cond.selects RJx4a65c yJx4a65c_add_72be8 yJx4a65c_add_72be8 ∈ wsL_law := ch_13 _ (List.mem_of_getElem? (i := 11) rfl)
theorem m_13_12 : Cond.code yJx4a65c_add_72be8 cJx4a65c_add_72be8 4 none ∈ wsL_law := ch_13 _ (List.mem_of_getElem? (i := 12) rfl)
theorem m_13_13 : Cond.methodLink RJx4a65c 129 yJx4a65c_grow_d5877 ∈ wsL_law := ch_13 _ (List.mem_of_getElem? (i := 13) rfl)
theorem m_13_14 : Cond.instanceMethod yJx4a65c_grow_d5877 ∈ wsL_law := ch_13 _ (List.mem_of_getElem? (i := 14) rfl)
theorem m_13_15 : Cond.selects RJx4a65c yJx4a65c_grow_d5877 yJx4a65c_grow_d5877 ∈ wsL_law := ch_13 _ (List.mem_of_getElem? (i := 15) rfl)
theorem m_13_16 : Cond.code yJx4a65c_grow_d5877 cJx4a65c_grow_d5877 1 (some (.array (.object "java/lang/Object"))) ∈ wsL_law := ch_13 _ (List.mem_of_getElem? (i := 16) rfl)
theorem m_13_17 : Cond.methodLink RJx4a65c 69 yJx4a65c_grow_92f84 ∈ wsL_law := ch_13 _ (List.mem_of_getElem? (i := 17) rfl)
theorem m_13_18 : Cond.instanceMethod yJx4a65c_grow_92f84 ∈ wsL_law := ch_13 _ (List.mem_of_getElem? (i := 18) rfl)
theorem m_13_19 : Cond.selects RJx4a65c yJx4a65c_grow_92f84 yJx4a65c_grow_92f84 ∈ wsL_law := ch_13 _ (List.mem_of_getElem? (i := 19) rfl)
theorem m_13_20 : Cond.code yJx4a65c_grow_92f84 cJx4a65c_grow_92f84 4 (some (.array (.object "java/lang/Object"))) ∈ wsL_law := ch_13 _ (List.mem_of_getElem? (i := 20) rfl)
theorem kd37_0 : (decode cJx4a65c_add_72be8 0 = .ok (.iload_n 3, 1)) ∧ (decode cJx4a65c_add_72be8 1 = .ok (.aload_n 2, 1)) ∧ (decode cJx4a65c_add_72be8 2 = .ok (.arraylength, 1)) ∧ (decode cJx4a65c_add_72be8 3 = .ok (.if_icmp .ne 8, 3)) ∧ (decode cJx4a65c_add_72be8 6 = .ok (.aload_n 0, 1)) ∧ (decode cJx4a65c_add_72be8 7 = .ok (.invokevirtual 129, 3)) ∧ (decode cJx4a65c_add_72be8 10 = .ok (.astore_n 2, 1)) ∧ (decode cJx4a65c_add_72be8 11 = .ok (.aload_n 2, 1)) ∧ (decode cJx4a65c_add_72be8 12 = .ok (.iload_n 3, 1)) ∧ (decode cJx4a65c_add_72be8 13 = .ok (.aload_n 1, 1)) ∧ (decode cJx4a65c_add_72be8 14 = .ok (.aastore, 1)) ∧ (decode cJx4a65c_add_72be8 15 = .ok (.aload_n 0, 1)) := by decide +kernel
theorem kd37_1 : (decode cJx4a65c_add_72be8 16 = .ok (.iload_n 3, 1)) ∧ (decode cJx4a65c_add_72be8 17 = .ok (.iconst 1, 1)) ∧ (decode cJx4a65c_add_72be8 18 = .ok (.iadd, 1)) ∧ (decode cJx4a65c_add_72be8 19 = .ok (.putfield 48, 3)) ∧ (decode cJx4a65c_add_72be8 22 = .ok (.return_, 1)) ∧ (decode cJx4a65c_add_9ea2d 0 = .ok (.aload_n 0, 1)) ∧ (decode cJx4a65c_add_9ea2d 1 = .ok (.dup, 1)) ∧ (decode cJx4a65c_add_9ea2d 2 = .ok (.getfield 63, 3)) ∧ (decode cJx4a65c_add_9ea2d 5 = .ok (.iconst 1, 1)) ∧ (decode cJx4a65c_add_9ea2d 6 = .ok (.iadd, 1)) ∧ (decode cJx4a65c_add_9ea2d 7 = .ok (.putfield 63, 3)) ∧ (decode cJx4a65c_add_9ea2d 10 = .ok (.aload_n 0, 1)) := by decide +kernel
theorem kd37_2 : (decode cJx4a65c_add_9ea2d 11 = .ok (.aload_n 1, 1)) ∧ (decode cJx4a65c_add_9ea2d 12 = .ok (.aload_n 0, 1)) ∧ (decode cJx4a65c_add_9ea2d 13 = .ok (.getfield 9, 3)) ∧ (decode cJx4a65c_add_9ea2d 16 = .ok (.aload_n 0, 1)) ∧ (decode cJx4a65c_add_9ea2d 17 = .ok (.getfield 48, 3)) ∧ (decode cJx4a65c_add_9ea2d 20 = .ok (.invokevirtual 131, 3)) ∧ (decode cJx4a65c_add_9ea2d 23 = .ok (.iconst 1, 1)) ∧ (decode cJx4a65c_add_9ea2d 24 = .ok (.ireturn, 1)) ∧ (decode cJx4a65c_grow_d5877 0 = .ok (.aload_n 0, 1)) ∧ (decode cJx4a65c_grow_d5877 1 = .ok (.aload_n 0, 1)) ∧ (decode cJx4a65c_grow_d5877 2 = .ok (.getfield 48, 3)) ∧ (decode cJx4a65c_grow_d5877 5 = .ok (.iconst 1, 1)) := by decide +kernel
theorem kd37_3 : (decode cJx4a65c_grow_d5877 6 = .ok (.iadd, 1)) ∧ (decode cJx4a65c_grow_d5877 7 = .ok (.invokevirtual 69, 3)) ∧ (decode cJx4a65c_grow_d5877 10 = .ok (.areturn, 1)) := by decide +kernel
theorem fl_Jx4a65c_63_0 : xF RJx4a65c 63 0 0 .int false := ⟨by decide, RJx4a65c, TJx4a65c, 3, tyJx4a65c, "java/util/ArrayList", rfl, inlJx4a65c, tyJx4a65c_ok, nmJx4a65c, by decide, rfl, rfl, m_13_7, Or.inr m_13_8⟩
theorem fl_Jx4a65c_63_100 : xF RJx4a65c 63 100 0 .int false := ⟨by decide, RJx4a65c, TJx4a65c, 3, tyJx4a65c, "java/util/ArrayList", rfl, inlJx4a65c, tyJx4a65c_ok, nmJx4a65c, by decide, rfl, rfl, m_13_7, Or.inr m_13_8⟩
theorem fl_Jx4a65c_63_200 : xF RJx4a65c 63 200 0 .int false := ⟨by decide, RJx4a65c, TJx4a65c, 3, tyJx4a65c, "java/util/ArrayList", rfl, inlJx4a65c, tyJx4a65c_ok, nmJx4a65c, by decide, rfl, rfl, m_13_7, Or.inr m_13_8⟩
theorem fl_Jx4a65c_63_300 : xF RJx4a65c 63 300 0 .int false := ⟨by decide, RJx4a65c, TJx4a65c, 3, tyJx4a65c, "java/util/ArrayList", rfl, inlJx4a65c, tyJx4a65c_ok, nmJx4a65c, by decide, rfl, rfl, m_13_7, Or.inr m_13_8⟩
theorem lk_Jx4a65c_129 : xLV RJx4a65c 129 yJx4a65c_grow_d5877 cJx4a65c_grow_d5877 1 (some (.array (.object "java/lang/Object"))) 0 := ⟨m_13_13, m_13_14, m_13_15, m_2_5, m_13_16, by decide +kernel⟩
theorem lk_Jx4a65c_131 : xLV RJx4a65c 131 yJx4a65c_add_72be8 cJx4a65c_add_72be8 4 none 3 := ⟨m_13_9, m_13_10, m_13_11, m_2_5, m_13_12, by decide +kernel⟩
theorem lk_Jx4a65c_69 : xLV RJx4a65c 69 yJx4a65c_grow_92f84 cJx4a65c_grow_92f84 4 (some (.array (.object "java/lang/Object"))) 1 := ⟨m_13_17, m_13_18, m_13_19, m_2_5, m_13_20, by decide +kernel⟩
def xALn (S : xT) (g : xG) (a td te cap n : Nat) (z : Int) : Prop := ∃ b : Nat, g a 1 = .ref b ∧ ((S b = some (td, n) ∧ n ≠ 0) ∨ (S b = some (20003, 0) ∧ n = 0)) ∧ n ∈ xcaps ∧ g a 2 = .int (iI z) ∧ 0 ≤ z ∧ z ≤ n ∧ z ≤ cap ∧ ∀ k : Nat, (k : Int) < z → ∃ e : Nat, g b k = .ref e ∧ S e = some (te, 0)
theorem xALn.al {S : xT} {g : xG} {a td te cap n : Nat} {z : Int} (h : xALn S g a td te cap n z) : xAL S g a td te cap := by
  obtain ⟨b, h⟩ := h
  exact ⟨b, n, z, h⟩
theorem xAL.n {S : xT} {g : xG} {a td te cap : Nat} (h : xAL S g a td te cap) : ∃ n z, xALn S g a td te cap n z := by
  obtain ⟨b, n, z, h⟩ := h
  exact ⟨n, z, b, h⟩
theorem xALn.same {S : xT} {g g1 : xG} {a td te cap n : Nat} {z : Int} (h : xALn S g a td te cap n z) (e1 : g1 a 1 = g a 1) (e2 : g1 a 2 = g a 2) (e3 : ∀ b n, S b = some (td, n) → ∀ k, g1 b k = g b k) : xALn S g1 a td te cap n z := by
  obtain ⟨b, h1, h2, h3, h4, h5, h6, h7, h8⟩ := h
  refine ⟨b, e1.trans h1, h2, h3, e2.trans h4, h5, h6, h7, fun k hk => ?_⟩
  obtain ⟨e, w1, w2⟩ := h8 k hk
  rcases h2 with h2 | ⟨-, h2⟩
  · exact ⟨e, (e3 b n h2.1 k).trans w1, w2⟩
  · omega
def xEm (S : xT) (t0 : Nat → Nat) : Prop := ∀ c m, S c = some (20003, m) → c = t0 0
theorem xLs_set_0 {S S1 : xT} {g g1 : xG} {a : Nat} {n : Nat} (h : xLs S g) (hm : xM [(0, 0), (0, 1), (0, 2), (10103, 0)] S g g1) (hle : xLe S S1) (hw : xNw2 S S1 [10103]) (hs : S a = some (0, n)) (hal : xAL S1 g1 a 10103 1 40) : xLs S1 g1 := by
  have h1 : xL1 S1 g1 0 10103 1 40 := ⟨fun c m c' m' w1 w2 => (xLs_0 h).1 c m c' m' ((hw c _ m w1).elim id (fun q => absurd q (by decide))) ((hw c' _ m' w2).elim id (fun q => absurd q (by decide))), fun c m hc => by
    have e := (xLs_0 h).1 c m a n ((hw c _ m hc).elim id (fun q => absurd q (by decide))) hs
    rw [e]; exact hal⟩
  exact ⟨h1, (((xLs_100 h).mod hm (by decide) (by decide) (by decide) (by decide) (by decide)).ext hle (fun a n q => (hw a _ n q).elim id (fun q => absurd q (by decide)))), (((xLs_200 h).mod hm (by decide) (by decide) (by decide) (by decide) (by decide)).ext hle (fun a n q => (hw a _ n q).elim id (fun q => absurd q (by decide)))), (((xLs_300 h).mod hm (by decide) (by decide) (by decide) (by decide) (by decide)).ext hle (fun a n q => (hw a _ n q).elim id (fun q => absurd q (by decide))))⟩
theorem xLs_set_100 {S S1 : xT} {g g1 : xG} {a : Nat} {n : Nat} (h : xLs S g) (hm : xM [(100, 0), (100, 1), (100, 2), (10203, 0)] S g g1) (hle : xLe S S1) (hw : xNw2 S S1 [10203]) (hs : S a = some (100, n)) (hal : xAL S1 g1 a 10203 2 200) : xLs S1 g1 := by
  have h1 : xL1 S1 g1 100 10203 2 200 := ⟨fun c m c' m' w1 w2 => (xLs_100 h).1 c m c' m' ((hw c _ m w1).elim id (fun q => absurd q (by decide))) ((hw c' _ m' w2).elim id (fun q => absurd q (by decide))), fun c m hc => by
    have e := (xLs_100 h).1 c m a n ((hw c _ m hc).elim id (fun q => absurd q (by decide))) hs
    rw [e]; exact hal⟩
  exact ⟨(((xLs_0 h).mod hm (by decide) (by decide) (by decide) (by decide) (by decide)).ext hle (fun a n q => (hw a _ n q).elim id (fun q => absurd q (by decide)))), h1, (((xLs_200 h).mod hm (by decide) (by decide) (by decide) (by decide) (by decide)).ext hle (fun a n q => (hw a _ n q).elim id (fun q => absurd q (by decide)))), (((xLs_300 h).mod hm (by decide) (by decide) (by decide) (by decide) (by decide)).ext hle (fun a n q => (hw a _ n q).elim id (fun q => absurd q (by decide))))⟩
theorem xLs_set_200 {S S1 : xT} {g g1 : xG} {a : Nat} {n : Nat} (h : xLs S g) (hm : xM [(200, 0), (200, 1), (200, 2), (10403, 0)] S g g1) (hle : xLe S S1) (hw : xNw2 S S1 [10403]) (hs : S a = some (200, n)) (hal : xAL S1 g1 a 10403 2 200) : xLs S1 g1 := by
  have h1 : xL1 S1 g1 200 10403 2 200 := ⟨fun c m c' m' w1 w2 => (xLs_200 h).1 c m c' m' ((hw c _ m w1).elim id (fun q => absurd q (by decide))) ((hw c' _ m' w2).elim id (fun q => absurd q (by decide))), fun c m hc => by
    have e := (xLs_200 h).1 c m a n ((hw c _ m hc).elim id (fun q => absurd q (by decide))) hs
    rw [e]; exact hal⟩
  exact ⟨(((xLs_0 h).mod hm (by decide) (by decide) (by decide) (by decide) (by decide)).ext hle (fun a n q => (hw a _ n q).elim id (fun q => absurd q (by decide)))), (((xLs_100 h).mod hm (by decide) (by decide) (by decide) (by decide) (by decide)).ext hle (fun a n q => (hw a _ n q).elim id (fun q => absurd q (by decide)))), h1, (((xLs_300 h).mod hm (by decide) (by decide) (by decide) (by decide) (by decide)).ext hle (fun a n q => (hw a _ n q).elim id (fun q => absurd q (by decide))))⟩
theorem xLs_set_300 {S S1 : xT} {g g1 : xG} {a : Nat} {n : Nat} (h : xLs S g) (hm : xM [(300, 0), (300, 1), (300, 2), (10303, 0)] S g g1) (hle : xLe S S1) (hw : xNw2 S S1 [10303]) (hs : S a = some (300, n)) (hal : xAL S1 g1 a 10303 11 10) : xLs S1 g1 := by
  have h1 : xL1 S1 g1 300 10303 11 10 := ⟨fun c m c' m' w1 w2 => (xLs_300 h).1 c m c' m' ((hw c _ m w1).elim id (fun q => absurd q (by decide))) ((hw c' _ m' w2).elim id (fun q => absurd q (by decide))), fun c m hc => by
    have e := (xLs_300 h).1 c m a n ((hw c _ m hc).elim id (fun q => absurd q (by decide))) hs
    rw [e]; exact hal⟩
  exact ⟨(((xLs_0 h).mod hm (by decide) (by decide) (by decide) (by decide) (by decide)).ext hle (fun a n q => (hw a _ n q).elim id (fun q => absurd q (by decide)))), (((xLs_100 h).mod hm (by decide) (by decide) (by decide) (by decide) (by decide)).ext hle (fun a n q => (hw a _ n q).elim id (fun q => absurd q (by decide)))), (((xLs_200 h).mod hm (by decide) (by decide) (by decide) (by decide) (by decide)).ext hle (fun a n q => (hw a _ n q).elim id (fun q => absurd q (by decide)))), h1⟩
set_option maxHeartbeats 4000000 in
set_option maxRecDepth 100000 in
theorem c_grow0_0 (l : Launch) (D : va_G) (kA : Nat → ClassId) (b0 : Nat) (t0 : Nat → Nat) (S : xT) (g : xG) (a0 b n : Nat) (hs_a0 : S a0 = some (0, 0)) (eb : g a0 1 = .ref b) (hb : (S b = some (10103, n) ∧ n ≠ 0) ∨ (S b = some (20003, 0) ∧ n = 0)) (hn : n ∈ xcaps) (hn2 : n ≤ 200) (hem : xEm S t0) (ez : g a0 2 = .int (iI (n : Int))) : xMu l yJx4a65c_grow_d5877 cJx4a65c_grow_d5877 1 (some (.array (.object "java/lang/Object"))) 4 1 244 97 D kA b0 t0 [(0, 1)] [.ref a0] S g (fun (r : Option Value) (S1 : xT) (g1 : xG) (dc ds : Nat) => ∃ q : Nat, r = some (.ref q) ∧ S q = none ∧ S1 = xset S q (10103, xcn n) ∧ (∀ c k, c ≠ q → (c ≠ a0 ∨ k ≠ 1) → g1 c k = g c k) ∧ g1 a0 1 = .ref q ∧ (∀ k, k < n → g1 q k = g b k) ∧ dc = 1 ∧ ds = xcn n) := by
  refine xEnterUA (Or.inr ⟨_, rfl⟩) (by decide) (by simp [lg_sl, Value.category]) [(0, .ref a0)] rfl ?_
  intro K E hK hret hS0 _ _ ht
  subst ht
  refine X_aloadn hK (i := 0) 0 kd37_2.2.2.2.2.2.2.2.2.1 rfl rfl ?_
  refine X_aloadn hK (i := 0) 0 kd37_2.2.2.2.2.2.2.2.2.2.1 rfl rfl ?_
  refine X_getK hK fl_Jx4a65c_48_0 hs_a0 ez kd37_2.2.2.2.2.2.2.2.2.2.2.1 ?_
  refine X_iconst hK kd37_2.2.2.2.2.2.2.2.2.2.2.2 ?_
  refine X_iadd hK kd37_3.1 ?_
  refine X_callVU hK [.int (iI ((n : Int) + 1))] [] lk_Jx4a65c_69 (c_grow1_0 _ _ _ _ _ S g a0 b n hs_a0 eb hb hn hn2 hem ((n : Int) + 1) rfl) hs_a0 ⟨by decide, rfl⟩ kd37_3.2.1 rfl rfl (by simp [Value.category]) (by decide) (by omega) (by omega) (by decide) (fun r1 S1 g1 dc1 ds1 p1 q1 h1 => ?_)
  obtain ⟨q, rfl, k1, k2, k3, k4, k5, k6, k7⟩ := p1
  refine X_st [.ref q] rfl ?_
  have hcn := xcn_in hn hn2
  exact hret _ _ _ _ _ _ _ kd37_3.2.2 (Or.inr ⟨_, rfl⟩) ⟨q, rfl, k1, k2, k3, k4, k5, (by omega), (by omega)⟩ (by omega) (by omega)

set_option maxHeartbeats 4000000 in
set_option maxRecDepth 100000 in
theorem c_add3_0 (l : Launch) (D : va_G) (kA : Nat → ClassId) (b0 : Nat) (t0 : Nat → Nat) (S : xT) (g : xG) (a0 a1 n : Nat) (z : Int) (hs_a0 : S a0 = some (0, 0)) (hs_a1 : S a1 = some (1, 0)) (hal : xALn S g a0 10103 1 40 n z) (hz : z < 40) (hem : xEm S t0) (b : Nat) (eb : g a0 1 = .ref b) : xMu l yJx4a65c_add_72be8 cJx4a65c_add_72be8 4 none 5 1 244 120 D kA b0 t0 [(0, 1), (0, 2), (10103, 0)] [.ref a0, .ref a1, .ref b, .int (iI z)] S g (fun (r : Option Value) (S1 : xT) (g1 : xG) (dc ds : Nat) => r = none ∧ xNw2 S S1 [10103] ∧ ∃ n1 : Nat, xALn S1 g1 a0 10103 1 40 n1 (z + 1) ∧ xrk n ≤ xrk n1 ∧ xsk n ≤ xsk n1 ∧ dc + xrk n = xrk n1 ∧ ds + xsk n = xsk n1 ∧ dc ≤ 1 ∧ ds ≤ 244) := by
  refine xEnterUV (by decide) (by simp [lg_sl, Value.category]) [(0, .ref a0), (1, .ref a1), (2, .ref b), (3, .int (iI z))] rfl ?_
  intro K E hK hret hS0 _ _ ht
  subst ht
  obtain ⟨b', eb', hb, hn, ez, q0, qq1, q2, hel⟩ := hal
  have ebb : b' = b := Value.ref.inj (eb'.symm.trans eb)
  subst ebb
  have hc := xcaps_le hn
  refine X_iloadn hK (i := 3) 3 kd37_0.1 rfl rfl ?_
  refine X_aloadn hK (i := 2) 2 kd37_0.2.1 rfl rfl ?_
  have hgrow : z = (n : Int) → X K E 6 [(0, .ref a0), (1, .ref a1), (2, .ref b'), (3, .int (iI z))] [] S g 0 0 := by
    intro hzn
    have hn2 : n ≤ 200 := by omega
    have hcn := xcn_in hn hn2
    have hrk := xrk_s hn hn2
    refine X_aloadn hK (i := 0) 0 kd37_0.2.2.2.2.1 rfl rfl ?_
    refine X_callVU hK [] [] lk_Jx4a65c_129 (c_grow0_0 _ _ _ _ _ S g a0 b' n hs_a0 eb hb hn hn2 hem (by rw [ez, hzn])) hs_a0 ⟨by decide, rfl⟩ kd37_0.2.2.2.2.2.1 rfl rfl (by simp [Value.category]) (by decide) (by omega) (by omega) (by decide) (fun r1 S1 g1 dc1 ds1 p1 q1 h1 => ?_)
    obtain ⟨q, rfl, hq, k2, k3, k4, k5, k6, k7⟩ := p1
    refine X_st [.ref q] rfl ?_
    have hs_q : S1 q = some (10103, xcn n) := by rw [k2]; exact xset_s _ _ _
    have nwq : xNw2 S S1 [10103] := by rw [k2]; exact xNw2.set (by decide)
    have hel1 : ∀ k : Nat, (k : Int) < z → ∃ e : Nat, g1 q k = .ref e ∧ S1 e = some (1, 0) := fun k hk => by
      obtain ⟨e, w1, w2⟩ := hel k hk
      exact ⟨e, by rw [k5 k (by omega)]; exact w1, q1 _ _ w2⟩
    refine X_astoren hK (i := 2) [(2, .ref q), (0, .ref a0), (1, .ref a1), (3, .int (iI z))] kd37_0.2.2.2.2.2.2.1 rfl (by decide) rfl ?_
    refine X_aloadn hK (i := 2) 0 kd37_0.2.2.2.2.2.2.2.1 rfl rfl ?_
    refine X_iloadn hK (i := 3) 3 kd37_0.2.2.2.2.2.2.2.2.1 rfl rfl ?_
    refine X_aloadn hK (i := 1) 2 kd37_0.2.2.2.2.2.2.2.2.2.1 rfl rfl ?_
    refine X_oast hK hs_q (q1 _ _ hs_a1) ⟨by decide, by decide, by decide, by omega⟩ ⟨by decide, rfl⟩ (fun _ _ h => h.1.2.2.2.1) sl_10103 (by decide) (by omega) (by omega) kd37_0.2.2.2.2.2.2.2.2.2.2.1 (fun g5 hg5 => ?_)
    refine X_aloadn hK (i := 0) 1 kd37_0.2.2.2.2.2.2.2.2.2.2.2 rfl rfl ?_
    refine X_iloadn hK (i := 3) 3 kd37_1.1 rfl rfl ?_
    refine X_iconst hK kd37_1.2.1 ?_
    refine X_iadd hK kd37_1.2.2.1 ?_
    refine X_puti hK fl_Jx4a65c_48_0 (q1 _ _ hs_a0) (by decide) sl_0_2 (by omega) (by omega) kd37_1.2.2.2.1 (fun g6 hg6 => ?_)
    have hab : a0 ≠ q := xne (q1 _ _ hs_a0) hs_q (by simp)
    refine hret _ _ _ _ _ _ kd37_1.2.2.2.2.1 ⟨rfl, nwq, (xcn n), ⟨q, ?_, Or.inl ⟨hs_q, by omega⟩, hcn.1, xs_s hg6, (by omega), (by omega), (by omega), fun k hk => ?_⟩, (by omega), (by omega), (by omega), (by omega), (by omega), (by omega)⟩ (by omega) (by omega)
    · rw [xs_k hg6 (by decide), xs_a hg5 hab]; exact k4
    · rw [xs_a hg6 (Ne.symm hab), hg5]
      rcases (show k = z.toNat ∨ k ≠ z.toNat by omega) with e | e
      · rw [e, xup_s]; exact ⟨a1, rfl, (q1 _ _ hs_a1)⟩
      · rw [xup_k e]; exact (hel1 k (by omega))
  rcases hb with ⟨hb, hnz⟩ | ⟨hb, h0⟩
  · refine X_alen hK (i := 3) (ty := .object "java/lang/Object") hb (by decide) (by decide) (fun _ => rfl) kd37_0.2.2.1 ?_
    refine X_icmp_ne hK 11 (by omega) (by omega) kd37_0.2.2.2.1 (by decide) (fun c1 => ?_) (fun c1 => hgrow c1)
    refine X_aloadn hK (i := 2) 2 kd37_0.2.2.2.2.2.2.2.1 rfl rfl ?_
    refine X_iloadn hK (i := 3) 3 kd37_0.2.2.2.2.2.2.2.2.1 rfl rfl ?_
    refine X_aloadn hK (i := 1) 1 kd37_0.2.2.2.2.2.2.2.2.2.1 rfl rfl ?_
    refine X_oast hK hb hs_a1 ⟨by decide, by decide, by decide, by omega⟩ ⟨by decide, rfl⟩ (fun _ _ h => h.1.2.2.2.1) sl_10103 (by decide) (by omega) (by omega) kd37_0.2.2.2.2.2.2.2.2.2.2.1 (fun g5 hg5 => ?_)
    refine X_aloadn hK (i := 0) 0 kd37_0.2.2.2.2.2.2.2.2.2.2.2 rfl rfl ?_
    refine X_iloadn hK (i := 3) 3 kd37_1.1 rfl rfl ?_
    refine X_iconst hK kd37_1.2.1 ?_
    refine X_iadd hK kd37_1.2.2.1 ?_
    refine X_puti hK fl_Jx4a65c_48_0 hs_a0 (by decide) sl_0_2 (by omega) (by omega) kd37_1.2.2.2.1 (fun g6 hg6 => ?_)
    have hab : a0 ≠ b' := xne hs_a0 hb (by simp)
    refine hret _ _ _ _ _ _ kd37_1.2.2.2.2.1 ⟨rfl, xNw2.rf, n, ⟨b', ?_, Or.inl ⟨hb, by omega⟩, hn, xs_s hg6, (by omega), (by omega), (by omega), fun k hk => ?_⟩, (by omega), (by omega), (by omega), (by omega), (by omega), (by omega)⟩ (by omega) (by omega)
    · rw [xs_k hg6 (by decide), xs_a hg5 hab]; exact eb
    · rw [xs_a hg6 (Ne.symm hab), hg5]
      rcases (show k = z.toNat ∨ k ≠ z.toNat by omega) with e | e
      · rw [e, xup_s]; exact ⟨a1, rfl, hs_a1⟩
      · rw [xup_k e]; exact (hel k (by omega))
  · subst h0
    refine X_alen hK (i := 3) (ty := .object "java/lang/Object") hb (by decide) (by decide) (fun _ => rfl) kd37_0.2.2.1 ?_
    refine X_icmp_ne hK 11 (by omega) (by omega) kd37_0.2.2.2.1 (by decide) (fun c1 => False.elim (by omega)) (fun c1 => hgrow c1)

set_option maxHeartbeats 4000000 in
set_option maxRecDepth 100000 in
theorem c_addE_0 (l : Launch) (D : va_G) (kA : Nat → ClassId) (b0 : Nat) (t0 : Nat → Nat) (S : xT) (g : xG) (a0 a1 n : Nat) (z : Int) (hs_a0 : S a0 = some (0, 0)) (hs_a1 : S a1 = some (1, 0)) (hal : xALn S g a0 10103 1 40 n z) (hz : z < 40) (hem : xEm S t0) : xMu l yJx4a65c_add_9ea2d cJx4a65c_add_9ea2d 2 (some .boolean) 6 1 244 143 D kA b0 t0 [(0, 0), (0, 1), (0, 2), (10103, 0)] [.ref a0, .ref a1] S g (fun (r : Option Value) (S1 : xT) (g1 : xG) (dc ds : Nat) => r = some (.int (iI 1)) ∧ xNw2 S S1 [10103] ∧ ∃ n1 : Nat, xALn S1 g1 a0 10103 1 40 n1 (z + 1) ∧ xrk n ≤ xrk n1 ∧ xsk n ≤ xsk n1 ∧ dc + xrk n = xrk n1 ∧ ds + xsk n = xsk n1 ∧ dc ≤ 1 ∧ ds ≤ 244) := by
  refine xEnterUZ (by decide) (by simp [lg_sl, Value.category]) [(0, .ref a0), (1, .ref a1)] rfl ?_
  intro K E hK hret hS0 _ _ ht
  subst ht
  refine X_aloadn hK (i := 0) 0 kd37_1.2.2.2.2.2.1 rfl rfl ?_
  refine X_dup hK kd37_1.2.2.2.2.2.2.1 rfl ?_
  refine X_geti hK fl_Jx4a65c_63_0 hs_a0 sl_0_0 kd37_1.2.2.2.2.2.2.2.1 (fun m em lm um => ?_)
  refine X_iconst hK kd37_1.2.2.2.2.2.2.2.2.1 ?_
  refine X_iadd hK kd37_1.2.2.2.2.2.2.2.2.2.1 ?_
  refine X_norm (fun m2 em2 lm2 um2 => ?_)
  refine X_puti hK fl_Jx4a65c_63_0 hs_a0 (by decide) sl_0_0 (by omega) (by omega) kd37_1.2.2.2.2.2.2.2.2.2.2.1 (fun g1 hg1 => ?_)
  have hal1 : xALn S g1 a0 10103 1 40 n z := hal.same (xs_k hg1 (by decide)) (xs_k hg1 (by decide)) (fun c m hc k => xs_a hg1 (xne hc hs_a0 (by simp)))
  obtain ⟨b, eb, hb, hn, ez, q0, qq1, q2, hel⟩ := id hal1
  refine X_aloadn hK (i := 0) 0 kd37_1.2.2.2.2.2.2.2.2.2.2.2 rfl rfl ?_
  refine X_aloadn hK (i := 1) 1 kd37_2.1 rfl rfl ?_
  refine X_aloadn hK (i := 0) 0 kd37_2.2.1 rfl rfl ?_
  refine X_getK hK fl_Jx4a65c_9_0 hs_a0 eb kd37_2.2.2.1 ?_
  refine X_aloadn hK (i := 0) 0 kd37_2.2.2.2.1 rfl rfl ?_
  refine X_getK hK fl_Jx4a65c_48_0 hs_a0 ez kd37_2.2.2.2.2.1 ?_
  refine X_callVU hK [.ref a1, .ref b, .int (iI z)] [] lk_Jx4a65c_131 (c_add3_0 _ _ _ _ _ S g1 a0 a1 n z hs_a0 hs_a1 hal1 hz hem b eb) hs_a0 ⟨by decide, rfl⟩ kd37_2.2.2.2.2.2.1 rfl rfl (by simp [Value.category]) (by decide) (by omega) (by omega) (by decide) (fun r1 S1 g2 dc1 ds1 p1 q1 h1 => ?_)
  obtain ⟨rfl, nw, n1, ha, k1, k2, k3, k4, k5, k6⟩ := p1
  refine X_st [] rfl ?_
  refine X_iconst hK kd37_2.2.2.2.2.2.2.1 ?_
  have hr1 : n1 ∈ xcaps := by obtain ⟨_, _, _, h, _⟩ := ha; exact h
  have hr2 := xrk_le hr1
  exact hret _ _ _ _ _ _ _ kd37_2.2.2.2.2.2.2.2.1 (by omega) (by omega) ⟨rfl, nw, n1, ha, k1, k2, (by omega), (by omega), (by omega), (by omega)⟩ (by omega) (by omega)

set_option maxHeartbeats 4000000 in
set_option maxRecDepth 100000 in
theorem c_grow0_100 (l : Launch) (D : va_G) (kA : Nat → ClassId) (b0 : Nat) (t0 : Nat → Nat) (S : xT) (g : xG) (a0 b n : Nat) (hs_a0 : S a0 = some (100, 0)) (eb : g a0 1 = .ref b) (hb : (S b = some (10203, n) ∧ n ≠ 0) ∨ (S b = some (20003, 0) ∧ n = 0)) (hn : n ∈ xcaps) (hn2 : n ≤ 200) (hem : xEm S t0) (ez : g a0 2 = .int (iI (n : Int))) : xMu l yJx4a65c_grow_d5877 cJx4a65c_grow_d5877 1 (some (.array (.object "java/lang/Object"))) 4 1 244 97 D kA b0 t0 [(100, 1)] [.ref a0] S g (fun (r : Option Value) (S1 : xT) (g1 : xG) (dc ds : Nat) => ∃ q : Nat, r = some (.ref q) ∧ S q = none ∧ S1 = xset S q (10203, xcn n) ∧ (∀ c k, c ≠ q → (c ≠ a0 ∨ k ≠ 1) → g1 c k = g c k) ∧ g1 a0 1 = .ref q ∧ (∀ k, k < n → g1 q k = g b k) ∧ dc = 1 ∧ ds = xcn n) := by
  refine xEnterUA (Or.inr ⟨_, rfl⟩) (by decide) (by simp [lg_sl, Value.category]) [(0, .ref a0)] rfl ?_
  intro K E hK hret hS0 _ _ ht
  subst ht
  refine X_aloadn hK (i := 0) 0 kd37_2.2.2.2.2.2.2.2.2.1 rfl rfl ?_
  refine X_aloadn hK (i := 0) 0 kd37_2.2.2.2.2.2.2.2.2.2.1 rfl rfl ?_
  refine X_getK hK fl_Jx4a65c_48_100 hs_a0 ez kd37_2.2.2.2.2.2.2.2.2.2.2.1 ?_
  refine X_iconst hK kd37_2.2.2.2.2.2.2.2.2.2.2.2 ?_
  refine X_iadd hK kd37_3.1 ?_
  refine X_callVU hK [.int (iI ((n : Int) + 1))] [] lk_Jx4a65c_69 (c_grow1_100 _ _ _ _ _ S g a0 b n hs_a0 eb hb hn hn2 hem ((n : Int) + 1) rfl) hs_a0 ⟨by decide, rfl⟩ kd37_3.2.1 rfl rfl (by simp [Value.category]) (by decide) (by omega) (by omega) (by decide) (fun r1 S1 g1 dc1 ds1 p1 q1 h1 => ?_)
  obtain ⟨q, rfl, k1, k2, k3, k4, k5, k6, k7⟩ := p1
  refine X_st [.ref q] rfl ?_
  have hcn := xcn_in hn hn2
  exact hret _ _ _ _ _ _ _ kd37_3.2.2 (Or.inr ⟨_, rfl⟩) ⟨q, rfl, k1, k2, k3, k4, k5, (by omega), (by omega)⟩ (by omega) (by omega)

set_option maxHeartbeats 4000000 in
set_option maxRecDepth 100000 in
theorem c_add3_100 (l : Launch) (D : va_G) (kA : Nat → ClassId) (b0 : Nat) (t0 : Nat → Nat) (S : xT) (g : xG) (a0 a1 n : Nat) (z : Int) (hs_a0 : S a0 = some (100, 0)) (hs_a1 : S a1 = some (2, 0)) (hal : xALn S g a0 10203 2 200 n z) (hz : z < 200) (hem : xEm S t0) (b : Nat) (eb : g a0 1 = .ref b) : xMu l yJx4a65c_add_72be8 cJx4a65c_add_72be8 4 none 5 1 244 120 D kA b0 t0 [(100, 1), (100, 2), (10203, 0)] [.ref a0, .ref a1, .ref b, .int (iI z)] S g (fun (r : Option Value) (S1 : xT) (g1 : xG) (dc ds : Nat) => r = none ∧ xNw2 S S1 [10203] ∧ ∃ n1 : Nat, xALn S1 g1 a0 10203 2 200 n1 (z + 1) ∧ xrk n ≤ xrk n1 ∧ xsk n ≤ xsk n1 ∧ dc + xrk n = xrk n1 ∧ ds + xsk n = xsk n1 ∧ dc ≤ 1 ∧ ds ≤ 244) := by
  refine xEnterUV (by decide) (by simp [lg_sl, Value.category]) [(0, .ref a0), (1, .ref a1), (2, .ref b), (3, .int (iI z))] rfl ?_
  intro K E hK hret hS0 _ _ ht
  subst ht
  obtain ⟨b', eb', hb, hn, ez, q0, qq1, q2, hel⟩ := hal
  have ebb : b' = b := Value.ref.inj (eb'.symm.trans eb)
  subst ebb
  have hc := xcaps_le hn
  refine X_iloadn hK (i := 3) 3 kd37_0.1 rfl rfl ?_
  refine X_aloadn hK (i := 2) 2 kd37_0.2.1 rfl rfl ?_
  have hgrow : z = (n : Int) → X K E 6 [(0, .ref a0), (1, .ref a1), (2, .ref b'), (3, .int (iI z))] [] S g 0 0 := by
    intro hzn
    have hn2 : n ≤ 200 := by omega
    have hcn := xcn_in hn hn2
    have hrk := xrk_s hn hn2
    refine X_aloadn hK (i := 0) 0 kd37_0.2.2.2.2.1 rfl rfl ?_
    refine X_callVU hK [] [] lk_Jx4a65c_129 (c_grow0_100 _ _ _ _ _ S g a0 b' n hs_a0 eb hb hn hn2 hem (by rw [ez, hzn])) hs_a0 ⟨by decide, rfl⟩ kd37_0.2.2.2.2.2.1 rfl rfl (by simp [Value.category]) (by decide) (by omega) (by omega) (by decide) (fun r1 S1 g1 dc1 ds1 p1 q1 h1 => ?_)
    obtain ⟨q, rfl, hq, k2, k3, k4, k5, k6, k7⟩ := p1
    refine X_st [.ref q] rfl ?_
    have hs_q : S1 q = some (10203, xcn n) := by rw [k2]; exact xset_s _ _ _
    have nwq : xNw2 S S1 [10203] := by rw [k2]; exact xNw2.set (by decide)
    have hel1 : ∀ k : Nat, (k : Int) < z → ∃ e : Nat, g1 q k = .ref e ∧ S1 e = some (2, 0) := fun k hk => by
      obtain ⟨e, w1, w2⟩ := hel k hk
      exact ⟨e, by rw [k5 k (by omega)]; exact w1, q1 _ _ w2⟩
    refine X_astoren hK (i := 2) [(2, .ref q), (0, .ref a0), (1, .ref a1), (3, .int (iI z))] kd37_0.2.2.2.2.2.2.1 rfl (by decide) rfl ?_
    refine X_aloadn hK (i := 2) 0 kd37_0.2.2.2.2.2.2.2.1 rfl rfl ?_
    refine X_iloadn hK (i := 3) 3 kd37_0.2.2.2.2.2.2.2.2.1 rfl rfl ?_
    refine X_aloadn hK (i := 1) 2 kd37_0.2.2.2.2.2.2.2.2.2.1 rfl rfl ?_
    refine X_oast hK hs_q (q1 _ _ hs_a1) ⟨by decide, by decide, by decide, by omega⟩ ⟨by decide, rfl⟩ (fun _ _ h => h.2.2.1) sl_10203 (by decide) (by omega) (by omega) kd37_0.2.2.2.2.2.2.2.2.2.2.1 (fun g5 hg5 => ?_)
    refine X_aloadn hK (i := 0) 1 kd37_0.2.2.2.2.2.2.2.2.2.2.2 rfl rfl ?_
    refine X_iloadn hK (i := 3) 3 kd37_1.1 rfl rfl ?_
    refine X_iconst hK kd37_1.2.1 ?_
    refine X_iadd hK kd37_1.2.2.1 ?_
    refine X_puti hK fl_Jx4a65c_48_100 (q1 _ _ hs_a0) (by decide) sl_100_2 (by omega) (by omega) kd37_1.2.2.2.1 (fun g6 hg6 => ?_)
    have hab : a0 ≠ q := xne (q1 _ _ hs_a0) hs_q (by simp)
    refine hret _ _ _ _ _ _ kd37_1.2.2.2.2.1 ⟨rfl, nwq, (xcn n), ⟨q, ?_, Or.inl ⟨hs_q, by omega⟩, hcn.1, xs_s hg6, (by omega), (by omega), (by omega), fun k hk => ?_⟩, (by omega), (by omega), (by omega), (by omega), (by omega), (by omega)⟩ (by omega) (by omega)
    · rw [xs_k hg6 (by decide), xs_a hg5 hab]; exact k4
    · rw [xs_a hg6 (Ne.symm hab), hg5]
      rcases (show k = z.toNat ∨ k ≠ z.toNat by omega) with e | e
      · rw [e, xup_s]; exact ⟨a1, rfl, (q1 _ _ hs_a1)⟩
      · rw [xup_k e]; exact (hel1 k (by omega))
  rcases hb with ⟨hb, hnz⟩ | ⟨hb, h0⟩
  · refine X_alen hK (i := 3) (ty := .object "java/lang/Object") hb (by decide) (by decide) (fun _ => rfl) kd37_0.2.2.1 ?_
    refine X_icmp_ne hK 11 (by omega) (by omega) kd37_0.2.2.2.1 (by decide) (fun c1 => ?_) (fun c1 => hgrow c1)
    refine X_aloadn hK (i := 2) 2 kd37_0.2.2.2.2.2.2.2.1 rfl rfl ?_
    refine X_iloadn hK (i := 3) 3 kd37_0.2.2.2.2.2.2.2.2.1 rfl rfl ?_
    refine X_aloadn hK (i := 1) 1 kd37_0.2.2.2.2.2.2.2.2.2.1 rfl rfl ?_
    refine X_oast hK hb hs_a1 ⟨by decide, by decide, by decide, by omega⟩ ⟨by decide, rfl⟩ (fun _ _ h => h.2.2.1) sl_10203 (by decide) (by omega) (by omega) kd37_0.2.2.2.2.2.2.2.2.2.2.1 (fun g5 hg5 => ?_)
    refine X_aloadn hK (i := 0) 0 kd37_0.2.2.2.2.2.2.2.2.2.2.2 rfl rfl ?_
    refine X_iloadn hK (i := 3) 3 kd37_1.1 rfl rfl ?_
    refine X_iconst hK kd37_1.2.1 ?_
    refine X_iadd hK kd37_1.2.2.1 ?_
    refine X_puti hK fl_Jx4a65c_48_100 hs_a0 (by decide) sl_100_2 (by omega) (by omega) kd37_1.2.2.2.1 (fun g6 hg6 => ?_)
    have hab : a0 ≠ b' := xne hs_a0 hb (by simp)
    refine hret _ _ _ _ _ _ kd37_1.2.2.2.2.1 ⟨rfl, xNw2.rf, n, ⟨b', ?_, Or.inl ⟨hb, by omega⟩, hn, xs_s hg6, (by omega), (by omega), (by omega), fun k hk => ?_⟩, (by omega), (by omega), (by omega), (by omega), (by omega), (by omega)⟩ (by omega) (by omega)
    · rw [xs_k hg6 (by decide), xs_a hg5 hab]; exact eb
    · rw [xs_a hg6 (Ne.symm hab), hg5]
      rcases (show k = z.toNat ∨ k ≠ z.toNat by omega) with e | e
      · rw [e, xup_s]; exact ⟨a1, rfl, hs_a1⟩
      · rw [xup_k e]; exact (hel k (by omega))
  · subst h0
    refine X_alen hK (i := 3) (ty := .object "java/lang/Object") hb (by decide) (by decide) (fun _ => rfl) kd37_0.2.2.1 ?_
    refine X_icmp_ne hK 11 (by omega) (by omega) kd37_0.2.2.2.1 (by decide) (fun c1 => False.elim (by omega)) (fun c1 => hgrow c1)

set_option maxHeartbeats 4000000 in
set_option maxRecDepth 100000 in
theorem c_addE_100 (l : Launch) (D : va_G) (kA : Nat → ClassId) (b0 : Nat) (t0 : Nat → Nat) (S : xT) (g : xG) (a0 a1 n : Nat) (z : Int) (hs_a0 : S a0 = some (100, 0)) (hs_a1 : S a1 = some (2, 0)) (hal : xALn S g a0 10203 2 200 n z) (hz : z < 200) (hem : xEm S t0) : xMu l yJx4a65c_add_9ea2d cJx4a65c_add_9ea2d 2 (some .boolean) 6 1 244 143 D kA b0 t0 [(100, 0), (100, 1), (100, 2), (10203, 0)] [.ref a0, .ref a1] S g (fun (r : Option Value) (S1 : xT) (g1 : xG) (dc ds : Nat) => r = some (.int (iI 1)) ∧ xNw2 S S1 [10203] ∧ ∃ n1 : Nat, xALn S1 g1 a0 10203 2 200 n1 (z + 1) ∧ xrk n ≤ xrk n1 ∧ xsk n ≤ xsk n1 ∧ dc + xrk n = xrk n1 ∧ ds + xsk n = xsk n1 ∧ dc ≤ 1 ∧ ds ≤ 244) := by
  refine xEnterUZ (by decide) (by simp [lg_sl, Value.category]) [(0, .ref a0), (1, .ref a1)] rfl ?_
  intro K E hK hret hS0 _ _ ht
  subst ht
  refine X_aloadn hK (i := 0) 0 kd37_1.2.2.2.2.2.1 rfl rfl ?_
  refine X_dup hK kd37_1.2.2.2.2.2.2.1 rfl ?_
  refine X_geti hK fl_Jx4a65c_63_100 hs_a0 sl_100_0 kd37_1.2.2.2.2.2.2.2.1 (fun m em lm um => ?_)
  refine X_iconst hK kd37_1.2.2.2.2.2.2.2.2.1 ?_
  refine X_iadd hK kd37_1.2.2.2.2.2.2.2.2.2.1 ?_
  refine X_norm (fun m2 em2 lm2 um2 => ?_)
  refine X_puti hK fl_Jx4a65c_63_100 hs_a0 (by decide) sl_100_0 (by omega) (by omega) kd37_1.2.2.2.2.2.2.2.2.2.2.1 (fun g1 hg1 => ?_)
  have hal1 : xALn S g1 a0 10203 2 200 n z := hal.same (xs_k hg1 (by decide)) (xs_k hg1 (by decide)) (fun c m hc k => xs_a hg1 (xne hc hs_a0 (by simp)))
  obtain ⟨b, eb, hb, hn, ez, q0, qq1, q2, hel⟩ := id hal1
  refine X_aloadn hK (i := 0) 0 kd37_1.2.2.2.2.2.2.2.2.2.2.2 rfl rfl ?_
  refine X_aloadn hK (i := 1) 1 kd37_2.1 rfl rfl ?_
  refine X_aloadn hK (i := 0) 0 kd37_2.2.1 rfl rfl ?_
  refine X_getK hK fl_Jx4a65c_9_100 hs_a0 eb kd37_2.2.2.1 ?_
  refine X_aloadn hK (i := 0) 0 kd37_2.2.2.2.1 rfl rfl ?_
  refine X_getK hK fl_Jx4a65c_48_100 hs_a0 ez kd37_2.2.2.2.2.1 ?_
  refine X_callVU hK [.ref a1, .ref b, .int (iI z)] [] lk_Jx4a65c_131 (c_add3_100 _ _ _ _ _ S g1 a0 a1 n z hs_a0 hs_a1 hal1 hz hem b eb) hs_a0 ⟨by decide, rfl⟩ kd37_2.2.2.2.2.2.1 rfl rfl (by simp [Value.category]) (by decide) (by omega) (by omega) (by decide) (fun r1 S1 g2 dc1 ds1 p1 q1 h1 => ?_)
  obtain ⟨rfl, nw, n1, ha, k1, k2, k3, k4, k5, k6⟩ := p1
  refine X_st [] rfl ?_
  refine X_iconst hK kd37_2.2.2.2.2.2.2.1 ?_
  have hr1 : n1 ∈ xcaps := by obtain ⟨_, _, _, h, _⟩ := ha; exact h
  have hr2 := xrk_le hr1
  exact hret _ _ _ _ _ _ _ kd37_2.2.2.2.2.2.2.2.1 (by omega) (by omega) ⟨rfl, nw, n1, ha, k1, k2, (by omega), (by omega), (by omega), (by omega)⟩ (by omega) (by omega)

set_option maxHeartbeats 4000000 in
set_option maxRecDepth 100000 in
theorem c_grow0_200 (l : Launch) (D : va_G) (kA : Nat → ClassId) (b0 : Nat) (t0 : Nat → Nat) (S : xT) (g : xG) (a0 b n : Nat) (hs_a0 : S a0 = some (200, 0)) (eb : g a0 1 = .ref b) (hb : (S b = some (10403, n) ∧ n ≠ 0) ∨ (S b = some (20003, 0) ∧ n = 0)) (hn : n ∈ xcaps) (hn2 : n ≤ 200) (hem : xEm S t0) (ez : g a0 2 = .int (iI (n : Int))) : xMu l yJx4a65c_grow_d5877 cJx4a65c_grow_d5877 1 (some (.array (.object "java/lang/Object"))) 4 1 244 97 D kA b0 t0 [(200, 1)] [.ref a0] S g (fun (r : Option Value) (S1 : xT) (g1 : xG) (dc ds : Nat) => ∃ q : Nat, r = some (.ref q) ∧ S q = none ∧ S1 = xset S q (10403, xcn n) ∧ (∀ c k, c ≠ q → (c ≠ a0 ∨ k ≠ 1) → g1 c k = g c k) ∧ g1 a0 1 = .ref q ∧ (∀ k, k < n → g1 q k = g b k) ∧ dc = 1 ∧ ds = xcn n) := by
  refine xEnterUA (Or.inr ⟨_, rfl⟩) (by decide) (by simp [lg_sl, Value.category]) [(0, .ref a0)] rfl ?_
  intro K E hK hret hS0 _ _ ht
  subst ht
  refine X_aloadn hK (i := 0) 0 kd37_2.2.2.2.2.2.2.2.2.1 rfl rfl ?_
  refine X_aloadn hK (i := 0) 0 kd37_2.2.2.2.2.2.2.2.2.2.1 rfl rfl ?_
  refine X_getK hK fl_Jx4a65c_48_200 hs_a0 ez kd37_2.2.2.2.2.2.2.2.2.2.2.1 ?_
  refine X_iconst hK kd37_2.2.2.2.2.2.2.2.2.2.2.2 ?_
  refine X_iadd hK kd37_3.1 ?_
  refine X_callVU hK [.int (iI ((n : Int) + 1))] [] lk_Jx4a65c_69 (c_grow1_200 _ _ _ _ _ S g a0 b n hs_a0 eb hb hn hn2 hem ((n : Int) + 1) rfl) hs_a0 ⟨by decide, rfl⟩ kd37_3.2.1 rfl rfl (by simp [Value.category]) (by decide) (by omega) (by omega) (by decide) (fun r1 S1 g1 dc1 ds1 p1 q1 h1 => ?_)
  obtain ⟨q, rfl, k1, k2, k3, k4, k5, k6, k7⟩ := p1
  refine X_st [.ref q] rfl ?_
  have hcn := xcn_in hn hn2
  exact hret _ _ _ _ _ _ _ kd37_3.2.2 (Or.inr ⟨_, rfl⟩) ⟨q, rfl, k1, k2, k3, k4, k5, (by omega), (by omega)⟩ (by omega) (by omega)

set_option maxHeartbeats 4000000 in
set_option maxRecDepth 100000 in
theorem c_grow0_300 (l : Launch) (D : va_G) (kA : Nat → ClassId) (b0 : Nat) (t0 : Nat → Nat) (S : xT) (g : xG) (a0 b n : Nat) (hs_a0 : S a0 = some (300, 0)) (eb : g a0 1 = .ref b) (hb : (S b = some (10303, n) ∧ n ≠ 0) ∨ (S b = some (20003, 0) ∧ n = 0)) (hn : n ∈ xcaps) (hn2 : n ≤ 200) (hem : xEm S t0) (ez : g a0 2 = .int (iI (n : Int))) : xMu l yJx4a65c_grow_d5877 cJx4a65c_grow_d5877 1 (some (.array (.object "java/lang/Object"))) 4 1 244 97 D kA b0 t0 [(300, 1)] [.ref a0] S g (fun (r : Option Value) (S1 : xT) (g1 : xG) (dc ds : Nat) => ∃ q : Nat, r = some (.ref q) ∧ S q = none ∧ S1 = xset S q (10303, xcn n) ∧ (∀ c k, c ≠ q → (c ≠ a0 ∨ k ≠ 1) → g1 c k = g c k) ∧ g1 a0 1 = .ref q ∧ (∀ k, k < n → g1 q k = g b k) ∧ dc = 1 ∧ ds = xcn n) := by
  refine xEnterUA (Or.inr ⟨_, rfl⟩) (by decide) (by simp [lg_sl, Value.category]) [(0, .ref a0)] rfl ?_
  intro K E hK hret hS0 _ _ ht
  subst ht
  refine X_aloadn hK (i := 0) 0 kd37_2.2.2.2.2.2.2.2.2.1 rfl rfl ?_
  refine X_aloadn hK (i := 0) 0 kd37_2.2.2.2.2.2.2.2.2.2.1 rfl rfl ?_
  refine X_getK hK fl_Jx4a65c_48_300 hs_a0 ez kd37_2.2.2.2.2.2.2.2.2.2.2.1 ?_
  refine X_iconst hK kd37_2.2.2.2.2.2.2.2.2.2.2.2 ?_
  refine X_iadd hK kd37_3.1 ?_
  refine X_callVU hK [.int (iI ((n : Int) + 1))] [] lk_Jx4a65c_69 (c_grow1_300 _ _ _ _ _ S g a0 b n hs_a0 eb hb hn hn2 hem ((n : Int) + 1) rfl) hs_a0 ⟨by decide, rfl⟩ kd37_3.2.1 rfl rfl (by simp [Value.category]) (by decide) (by omega) (by omega) (by decide) (fun r1 S1 g1 dc1 ds1 p1 q1 h1 => ?_)
  obtain ⟨q, rfl, k1, k2, k3, k4, k5, k6, k7⟩ := p1
  refine X_st [.ref q] rfl ?_
  have hcn := xcn_in hn hn2
  exact hret _ _ _ _ _ _ _ kd37_3.2.2 (Or.inr ⟨_, rfl⟩) ⟨q, rfl, k1, k2, k3, k4, k5, (by omega), (by omega)⟩ (by omega) (by omega)

set_option maxHeartbeats 4000000 in
set_option maxRecDepth 100000 in
theorem c_add3_300 (l : Launch) (D : va_G) (kA : Nat → ClassId) (b0 : Nat) (t0 : Nat → Nat) (S : xT) (g : xG) (a0 a1 n : Nat) (z : Int) (hs_a0 : S a0 = some (300, 0)) (hs_a1 : S a1 = some (11, 0)) (hal : xALn S g a0 10303 11 10 n z) (hz : z < 10) (hem : xEm S t0) (b : Nat) (eb : g a0 1 = .ref b) : xMu l yJx4a65c_add_72be8 cJx4a65c_add_72be8 4 none 5 1 244 120 D kA b0 t0 [(300, 1), (300, 2), (10303, 0)] [.ref a0, .ref a1, .ref b, .int (iI z)] S g (fun (r : Option Value) (S1 : xT) (g1 : xG) (dc ds : Nat) => r = none ∧ xNw2 S S1 [10303] ∧ ∃ n1 : Nat, xALn S1 g1 a0 10303 11 10 n1 (z + 1) ∧ xrk n ≤ xrk n1 ∧ xsk n ≤ xsk n1 ∧ dc + xrk n = xrk n1 ∧ ds + xsk n = xsk n1 ∧ dc ≤ 1 ∧ ds ≤ 244) := by
  refine xEnterUV (by decide) (by simp [lg_sl, Value.category]) [(0, .ref a0), (1, .ref a1), (2, .ref b), (3, .int (iI z))] rfl ?_
  intro K E hK hret hS0 _ _ ht
  subst ht
  obtain ⟨b', eb', hb, hn, ez, q0, qq1, q2, hel⟩ := hal
  have ebb : b' = b := Value.ref.inj (eb'.symm.trans eb)
  subst ebb
  have hc := xcaps_le hn
  refine X_iloadn hK (i := 3) 3 kd37_0.1 rfl rfl ?_
  refine X_aloadn hK (i := 2) 2 kd37_0.2.1 rfl rfl ?_
  have hgrow : z = (n : Int) → X K E 6 [(0, .ref a0), (1, .ref a1), (2, .ref b'), (3, .int (iI z))] [] S g 0 0 := by
    intro hzn
    have hn2 : n ≤ 200 := by omega
    have hcn := xcn_in hn hn2
    have hrk := xrk_s hn hn2
    refine X_aloadn hK (i := 0) 0 kd37_0.2.2.2.2.1 rfl rfl ?_
    refine X_callVU hK [] [] lk_Jx4a65c_129 (c_grow0_300 _ _ _ _ _ S g a0 b' n hs_a0 eb hb hn hn2 hem (by rw [ez, hzn])) hs_a0 ⟨by decide, rfl⟩ kd37_0.2.2.2.2.2.1 rfl rfl (by simp [Value.category]) (by decide) (by omega) (by omega) (by decide) (fun r1 S1 g1 dc1 ds1 p1 q1 h1 => ?_)
    obtain ⟨q, rfl, hq, k2, k3, k4, k5, k6, k7⟩ := p1
    refine X_st [.ref q] rfl ?_
    have hs_q : S1 q = some (10303, xcn n) := by rw [k2]; exact xset_s _ _ _
    have nwq : xNw2 S S1 [10303] := by rw [k2]; exact xNw2.set (by decide)
    have hel1 : ∀ k : Nat, (k : Int) < z → ∃ e : Nat, g1 q k = .ref e ∧ S1 e = some (11, 0) := fun k hk => by
      obtain ⟨e, w1, w2⟩ := hel k hk
      exact ⟨e, by rw [k5 k (by omega)]; exact w1, q1 _ _ w2⟩
    refine X_astoren hK (i := 2) [(2, .ref q), (0, .ref a0), (1, .ref a1), (3, .int (iI z))] kd37_0.2.2.2.2.2.2.1 rfl (by decide) rfl ?_
    refine X_aloadn hK (i := 2) 0 kd37_0.2.2.2.2.2.2.2.1 rfl rfl ?_
    refine X_iloadn hK (i := 3) 3 kd37_0.2.2.2.2.2.2.2.2.1 rfl rfl ?_
    refine X_aloadn hK (i := 1) 2 kd37_0.2.2.2.2.2.2.2.2.2.1 rfl rfl ?_
    refine X_oast hK hs_q (q1 _ _ hs_a1) ⟨by decide, by decide, by decide, by omega⟩ ⟨by decide, rfl⟩ (fun _ _ h => h.1.2.2.2.2) sl_10303 (by decide) (by omega) (by omega) kd37_0.2.2.2.2.2.2.2.2.2.2.1 (fun g5 hg5 => ?_)
    refine X_aloadn hK (i := 0) 1 kd37_0.2.2.2.2.2.2.2.2.2.2.2 rfl rfl ?_
    refine X_iloadn hK (i := 3) 3 kd37_1.1 rfl rfl ?_
    refine X_iconst hK kd37_1.2.1 ?_
    refine X_iadd hK kd37_1.2.2.1 ?_
    refine X_puti hK fl_Jx4a65c_48_300 (q1 _ _ hs_a0) (by decide) sl_300_2 (by omega) (by omega) kd37_1.2.2.2.1 (fun g6 hg6 => ?_)
    have hab : a0 ≠ q := xne (q1 _ _ hs_a0) hs_q (by simp)
    refine hret _ _ _ _ _ _ kd37_1.2.2.2.2.1 ⟨rfl, nwq, (xcn n), ⟨q, ?_, Or.inl ⟨hs_q, by omega⟩, hcn.1, xs_s hg6, (by omega), (by omega), (by omega), fun k hk => ?_⟩, (by omega), (by omega), (by omega), (by omega), (by omega), (by omega)⟩ (by omega) (by omega)
    · rw [xs_k hg6 (by decide), xs_a hg5 hab]; exact k4
    · rw [xs_a hg6 (Ne.symm hab), hg5]
      rcases (show k = z.toNat ∨ k ≠ z.toNat by omega) with e | e
      · rw [e, xup_s]; exact ⟨a1, rfl, (q1 _ _ hs_a1)⟩
      · rw [xup_k e]; exact (hel1 k (by omega))
  rcases hb with ⟨hb, hnz⟩ | ⟨hb, h0⟩
  · refine X_alen hK (i := 3) (ty := .object "java/lang/Object") hb (by decide) (by decide) (fun _ => rfl) kd37_0.2.2.1 ?_
    refine X_icmp_ne hK 11 (by omega) (by omega) kd37_0.2.2.2.1 (by decide) (fun c1 => ?_) (fun c1 => hgrow c1)
    refine X_aloadn hK (i := 2) 2 kd37_0.2.2.2.2.2.2.2.1 rfl rfl ?_
    refine X_iloadn hK (i := 3) 3 kd37_0.2.2.2.2.2.2.2.2.1 rfl rfl ?_
    refine X_aloadn hK (i := 1) 1 kd37_0.2.2.2.2.2.2.2.2.2.1 rfl rfl ?_
    refine X_oast hK hb hs_a1 ⟨by decide, by decide, by decide, by omega⟩ ⟨by decide, rfl⟩ (fun _ _ h => h.1.2.2.2.2) sl_10303 (by decide) (by omega) (by omega) kd37_0.2.2.2.2.2.2.2.2.2.2.1 (fun g5 hg5 => ?_)
    refine X_aloadn hK (i := 0) 0 kd37_0.2.2.2.2.2.2.2.2.2.2.2 rfl rfl ?_
    refine X_iloadn hK (i := 3) 3 kd37_1.1 rfl rfl ?_
    refine X_iconst hK kd37_1.2.1 ?_
    refine X_iadd hK kd37_1.2.2.1 ?_
    refine X_puti hK fl_Jx4a65c_48_300 hs_a0 (by decide) sl_300_2 (by omega) (by omega) kd37_1.2.2.2.1 (fun g6 hg6 => ?_)
    have hab : a0 ≠ b' := xne hs_a0 hb (by simp)
    refine hret _ _ _ _ _ _ kd37_1.2.2.2.2.1 ⟨rfl, xNw2.rf, n, ⟨b', ?_, Or.inl ⟨hb, by omega⟩, hn, xs_s hg6, (by omega), (by omega), (by omega), fun k hk => ?_⟩, (by omega), (by omega), (by omega), (by omega), (by omega), (by omega)⟩ (by omega) (by omega)
    · rw [xs_k hg6 (by decide), xs_a hg5 hab]; exact eb
    · rw [xs_a hg6 (Ne.symm hab), hg5]
      rcases (show k = z.toNat ∨ k ≠ z.toNat by omega) with e | e
      · rw [e, xup_s]; exact ⟨a1, rfl, hs_a1⟩
      · rw [xup_k e]; exact (hel k (by omega))
  · subst h0
    refine X_alen hK (i := 3) (ty := .object "java/lang/Object") hb (by decide) (by decide) (fun _ => rfl) kd37_0.2.2.1 ?_
    refine X_icmp_ne hK 11 (by omega) (by omega) kd37_0.2.2.2.1 (by decide) (fun c1 => False.elim (by omega)) (fun c1 => hgrow c1)

set_option maxHeartbeats 4000000 in
set_option maxRecDepth 100000 in
theorem c_addE_300 (l : Launch) (D : va_G) (kA : Nat → ClassId) (b0 : Nat) (t0 : Nat → Nat) (S : xT) (g : xG) (a0 a1 n : Nat) (z : Int) (hs_a0 : S a0 = some (300, 0)) (hs_a1 : S a1 = some (11, 0)) (hal : xALn S g a0 10303 11 10 n z) (hz : z < 10) (hem : xEm S t0) : xMu l yJx4a65c_add_9ea2d cJx4a65c_add_9ea2d 2 (some .boolean) 6 1 244 143 D kA b0 t0 [(300, 0), (300, 1), (300, 2), (10303, 0)] [.ref a0, .ref a1] S g (fun (r : Option Value) (S1 : xT) (g1 : xG) (dc ds : Nat) => r = some (.int (iI 1)) ∧ xNw2 S S1 [10303] ∧ ∃ n1 : Nat, xALn S1 g1 a0 10303 11 10 n1 (z + 1) ∧ xrk n ≤ xrk n1 ∧ xsk n ≤ xsk n1 ∧ dc + xrk n = xrk n1 ∧ ds + xsk n = xsk n1 ∧ dc ≤ 1 ∧ ds ≤ 244) := by
  refine xEnterUZ (by decide) (by simp [lg_sl, Value.category]) [(0, .ref a0), (1, .ref a1)] rfl ?_
  intro K E hK hret hS0 _ _ ht
  subst ht
  refine X_aloadn hK (i := 0) 0 kd37_1.2.2.2.2.2.1 rfl rfl ?_
  refine X_dup hK kd37_1.2.2.2.2.2.2.1 rfl ?_
  refine X_geti hK fl_Jx4a65c_63_300 hs_a0 sl_300_0 kd37_1.2.2.2.2.2.2.2.1 (fun m em lm um => ?_)
  refine X_iconst hK kd37_1.2.2.2.2.2.2.2.2.1 ?_
  refine X_iadd hK kd37_1.2.2.2.2.2.2.2.2.2.1 ?_
  refine X_norm (fun m2 em2 lm2 um2 => ?_)
  refine X_puti hK fl_Jx4a65c_63_300 hs_a0 (by decide) sl_300_0 (by omega) (by omega) kd37_1.2.2.2.2.2.2.2.2.2.2.1 (fun g1 hg1 => ?_)
  have hal1 : xALn S g1 a0 10303 11 10 n z := hal.same (xs_k hg1 (by decide)) (xs_k hg1 (by decide)) (fun c m hc k => xs_a hg1 (xne hc hs_a0 (by simp)))
  obtain ⟨b, eb, hb, hn, ez, q0, qq1, q2, hel⟩ := id hal1
  refine X_aloadn hK (i := 0) 0 kd37_1.2.2.2.2.2.2.2.2.2.2.2 rfl rfl ?_
  refine X_aloadn hK (i := 1) 1 kd37_2.1 rfl rfl ?_
  refine X_aloadn hK (i := 0) 0 kd37_2.2.1 rfl rfl ?_
  refine X_getK hK fl_Jx4a65c_9_300 hs_a0 eb kd37_2.2.2.1 ?_
  refine X_aloadn hK (i := 0) 0 kd37_2.2.2.2.1 rfl rfl ?_
  refine X_getK hK fl_Jx4a65c_48_300 hs_a0 ez kd37_2.2.2.2.2.1 ?_
  refine X_callVU hK [.ref a1, .ref b, .int (iI z)] [] lk_Jx4a65c_131 (c_add3_300 _ _ _ _ _ S g1 a0 a1 n z hs_a0 hs_a1 hal1 hz hem b eb) hs_a0 ⟨by decide, rfl⟩ kd37_2.2.2.2.2.2.1 rfl rfl (by simp [Value.category]) (by decide) (by omega) (by omega) (by decide) (fun r1 S1 g2 dc1 ds1 p1 q1 h1 => ?_)
  obtain ⟨rfl, nw, n1, ha, k1, k2, k3, k4, k5, k6⟩ := p1
  refine X_st [] rfl ?_
  refine X_iconst hK kd37_2.2.2.2.2.2.2.1 ?_
  have hr1 : n1 ∈ xcaps := by obtain ⟨_, _, _, h, _⟩ := ha; exact h
  have hr2 := xrk_le hr1
  exact hret _ _ _ _ _ _ _ kd37_2.2.2.2.2.2.2.2.1 (by omega) (by omega) ⟨rfl, nw, n1, ha, k1, k2, (by omega), (by omega), (by omega), (by omega)⟩ (by omega) (by omega)
