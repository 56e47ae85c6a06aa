theorem m_4_23 : Cond.fieldLink RJx4a65c 39 "java/util/ArrayList" "DEFAULTCAPACITY_EMPTY_ELEMENTDATA" "[Ljava/lang/Object;" ∈ wsL_law := ch_4 _ (List.mem_of_getElem? (i := 23) rfl)
theorem m_13_21 : Cond.methodLink RJx4a65c 79 Lib.Math.max.name ∈ wsL_law := ch_13 _ (List.mem_of_getElem? (i := 21) rfl)
theorem m_14_1 : Cond.classLink RJx4a65c 7 "java/lang/Object" ∈ wsL_law := ch_14 _ (List.mem_of_getElem? (i := 1) rfl)
theorem m_14_2 : Cond.methodLink RJx4a65c 73 yJ8_newLength_cabcc ∈ wsL_law := ch_14 _ (List.mem_of_getElem? (i := 2) rfl)
theorem m_14_3 : Cond.static yJ8_newLength_cabcc ∈ wsL_law := ch_14 _ (List.mem_of_getElem? (i := 3) rfl)
theorem m_14_4 : Cond.initialized RJ8 ∈ wsL_law := ch_14 _ (List.mem_of_getElem? (i := 4) rfl)
theorem m_14_5 : Cond.code yJ8_newLength_cabcc cJ8_newLength_cabcc 4 (some .int) ∈ wsL_law := ch_14 _ (List.mem_of_getElem? (i := 5) rfl)
theorem m_14_6 : Cond.methodLink RJ8 194 Lib.Math.max.name ∈ wsL_law := ch_14 _ (List.mem_of_getElem? (i := 6) rfl)
theorem m_14_7 : Cond.constant RJ8 200 (2147483639) ∈ wsL_law := ch_14 _ (List.mem_of_getElem? (i := 7) rfl)
theorem m_14_11 : Cond.methodLink RJx4a65c 66 yJ7_copyOf_1904c ∈ wsL_law := ch_14 _ (List.mem_of_getElem? (i := 11) rfl)
theorem m_14_12 : Cond.static yJ7_copyOf_1904c ∈ wsL_law := ch_14 _ (List.mem_of_getElem? (i := 12) rfl)
theorem m_14_13 : Cond.initialized RJ7 ∈ wsL_law := ch_14 _ (List.mem_of_getElem? (i := 13) rfl)
theorem m_14_14 : Cond.code yJ7_copyOf_1904c cJ7_copyOf_1904c 2 (some (.array (.object "java/lang/Object"))) ∈ wsL_law := ch_14 _ (List.mem_of_getElem? (i := 14) rfl)
theorem m_14_15 : Cond.methodLink RJ7 86 ⟨"java/lang/Object", "getClass", "()Ljava/lang/Class;"⟩ ∈ wsL_law := ch_14 _ (List.mem_of_getElem? (i := 15) rfl)
theorem m_14_16 : Cond.selects "[Ljava/lang/Object;" ⟨"java/lang/Object", "getClass", "()Ljava/lang/Class;"⟩ ⟨"java/lang/Object", "getClass", "()Ljava/lang/Class;"⟩ ∈ wsL_law := ch_14 _ (List.mem_of_getElem? (i := 16) rfl)
theorem m_14_17 : Cond.instanceMethod ⟨"java/lang/Object", "getClass", "()Ljava/lang/Class;"⟩ ∈ wsL_law := ch_14 _ (List.mem_of_getElem? (i := 17) rfl)
theorem m_14_18 : Cond.native ⟨"java/lang/Object", "getClass", "()Ljava/lang/Class;"⟩ ∈ wsL_law := ch_14 _ (List.mem_of_getElem? (i := 18) rfl)
theorem m_14_19 : Cond.methodLink RJ7 300 yJ7_copyOf_6403c ∈ wsL_law := ch_14 _ (List.mem_of_getElem? (i := 19) rfl)
theorem m_14_20 : Cond.static yJ7_copyOf_6403c ∈ wsL_law := ch_14 _ (List.mem_of_getElem? (i := 20) rfl)
theorem m_14_21 : Cond.code yJ7_copyOf_6403c cJ7_copyOf_6403c 4 (some (.array (.object "java/lang/Object"))) ∈ wsL_law := ch_14 _ (List.mem_of_getElem? (i := 21) rfl)
theorem m_14_22 : Cond.classLink RJ7 110 "[Ljava/lang/Object;" ∈ wsL_law := ch_14 _ (List.mem_of_getElem? (i := 22) rfl)
theorem m_14_23 : Cond.classLink RJ7 2 "java/lang/Object" ∈ wsL_law := ch_14 _ (List.mem_of_getElem? (i := 23) rfl)
theorem m_15_0 : Cond.methodLink RJ7 304 Lib.Math.min.name ∈ wsL_law := ch_15 _ (List.mem_of_getElem? (i := 0) rfl)
theorem m_15_3 : Cond.methodLink RJ7 150 arraycopyName ∈ wsL_law := ch_15 _ (List.mem_of_getElem? (i := 3) rfl)
theorem m_15_4 : Cond.native arraycopyName ∈ wsL_law := ch_15 _ (List.mem_of_getElem? (i := 4) rfl)
theorem m_15_5 : Cond.static arraycopyName ∈ wsL_law := ch_15 _ (List.mem_of_getElem? (i := 5) rfl)
theorem m_15_6 : Cond.initialized "java/lang/System" ∈ wsL_law := ch_15 _ (List.mem_of_getElem? (i := 6) rfl)
theorem kd35_0 : (decode cJ7_copyOf_1904c 0 = .ok (.aload_n 0, 1)) ∧ (decode cJ7_copyOf_1904c 1 = .ok (.iload_n 1, 1)) ∧ (decode cJ7_copyOf_1904c 2 = .ok (.aload_n 0, 1)) ∧ (decode cJ7_copyOf_1904c 3 = .ok (.invokevirtual 86, 3)) ∧ (decode cJ7_copyOf_1904c 6 = .ok (.invokestatic 300, 3)) ∧ (decode cJ7_copyOf_1904c 9 = .ok (.areturn, 1)) ∧ (decode cJ7_copyOf_6403c 0 = .ok (.aload_n 2, 1)) ∧ (decode cJ7_copyOf_6403c 1 = .ok (.ldc 110, 2)) ∧ (decode cJ7_copyOf_6403c 3 = .ok (.if_acmp .ne 10, 3)) ∧ (decode cJ7_copyOf_6403c 6 = .ok (.iload_n 1, 1)) ∧ (decode cJ7_copyOf_6403c 7 = .ok (.anewarray 2, 3)) ∧ (decode cJ7_copyOf_6403c 10 = .ok (.goto 14, 3)) := by decide +kernel
theorem kd35_1 : (decode cJ7_copyOf_6403c 24 = .ok (.astore_n 3, 1)) ∧ (decode cJ7_copyOf_6403c 25 = .ok (.aload_n 0, 1)) ∧ (decode cJ7_copyOf_6403c 26 = .ok (.iconst 0, 1)) ∧ (decode cJ7_copyOf_6403c 27 = .ok (.aload_n 3, 1)) ∧ (decode cJ7_copyOf_6403c 28 = .ok (.iconst 0, 1)) ∧ (decode cJ7_copyOf_6403c 29 = .ok (.aload_n 0, 1)) ∧ (decode cJ7_copyOf_6403c 30 = .ok (.arraylength, 1)) ∧ (decode cJ7_copyOf_6403c 31 = .ok (.iload_n 1, 1)) ∧ (decode cJ7_copyOf_6403c 32 = .ok (.invokestatic 304, 3)) ∧ (decode cJ7_copyOf_6403c 35 = .ok (.invokestatic 150, 3)) ∧ (decode cJ7_copyOf_6403c 38 = .ok (.aload_n 3, 1)) ∧ (decode cJ7_copyOf_6403c 39 = .ok (.areturn, 1)) := by decide +kernel
theorem kd35_2 : (decode cJ8_newLength_cabcc 0 = .ok (.iload_n 0, 1)) ∧ (decode cJ8_newLength_cabcc 1 = .ok (.iload_n 1, 1)) ∧ (decode cJ8_newLength_cabcc 2 = .ok (.iload_n 2, 1)) ∧ (decode cJ8_newLength_cabcc 3 = .ok (.invokestatic 194, 3)) ∧ (decode cJ8_newLength_cabcc 6 = .ok (.iadd, 1)) ∧ (decode cJ8_newLength_cabcc 7 = .ok (.istore_n 3, 1)) ∧ (decode cJ8_newLength_cabcc 8 = .ok (.iconst 0, 1)) ∧ (decode cJ8_newLength_cabcc 9 = .ok (.iload_n 3, 1)) ∧ (decode cJ8_newLength_cabcc 10 = .ok (.if_icmp .ge 11, 3)) ∧ (decode cJ8_newLength_cabcc 13 = .ok (.iload_n 3, 1)) ∧ (decode cJ8_newLength_cabcc 14 = .ok (.ldc 200, 2)) ∧ (decode cJ8_newLength_cabcc 16 = .ok (.if_icmp .gt 5, 3)) := by decide +kernel
theorem kd35_3 : (decode cJ8_newLength_cabcc 19 = .ok (.iload_n 3, 1)) ∧ (decode cJ8_newLength_cabcc 20 = .ok (.ireturn, 1)) ∧ (decode cJx4a65c_grow_92f84 0 = .ok (.aload_n 0, 1)) ∧ (decode cJx4a65c_grow_92f84 1 = .ok (.getfield 9, 3)) ∧ (decode cJx4a65c_grow_92f84 4 = .ok (.arraylength, 1)) ∧ (decode cJx4a65c_grow_92f84 5 = .ok (.istore_n 2, 1)) ∧ (decode cJx4a65c_grow_92f84 6 = .ok (.iload_n 2, 1)) ∧ (decode cJx4a65c_grow_92f84 7 = .ok (.ifCond .gt 13, 3)) ∧ (decode cJx4a65c_grow_92f84 10 = .ok (.aload_n 0, 1)) ∧ (decode cJx4a65c_grow_92f84 11 = .ok (.getfield 9, 3)) ∧ (decode cJx4a65c_grow_92f84 14 = .ok (.getstatic 39, 3)) ∧ (decode cJx4a65c_grow_92f84 17 = .ok (.if_acmp .eq 28, 3)) := by decide +kernel
theorem kd35_4 : (decode cJx4a65c_grow_92f84 20 = .ok (.iload_n 2, 1)) ∧ (decode cJx4a65c_grow_92f84 21 = .ok (.iload_n 1, 1)) ∧ (decode cJx4a65c_grow_92f84 22 = .ok (.iload_n 2, 1)) ∧ (decode cJx4a65c_grow_92f84 23 = .ok (.isub, 1)) ∧ (decode cJx4a65c_grow_92f84 24 = .ok (.iload_n 2, 1)) ∧ (decode cJx4a65c_grow_92f84 25 = .ok (.iconst 1, 1)) ∧ (decode cJx4a65c_grow_92f84 26 = .ok (.ishr, 1)) ∧ (decode cJx4a65c_grow_92f84 27 = .ok (.invokestatic 73, 3)) ∧ (decode cJx4a65c_grow_92f84 30 = .ok (.istore_n 3, 1)) ∧ (decode cJx4a65c_grow_92f84 31 = .ok (.aload_n 0, 1)) ∧ (decode cJx4a65c_grow_92f84 32 = .ok (.aload_n 0, 1)) ∧ (decode cJx4a65c_grow_92f84 33 = .ok (.getfield 9, 3)) := by decide +kernel
theorem kd35_5 : (decode cJx4a65c_grow_92f84 36 = .ok (.iload_n 3, 1)) ∧ (decode cJx4a65c_grow_92f84 37 = .ok (.invokestatic 66, 3)) ∧ (decode cJx4a65c_grow_92f84 40 = .ok (.dup_x1, 1)) ∧ (decode cJx4a65c_grow_92f84 41 = .ok (.putfield 9, 3)) ∧ (decode cJx4a65c_grow_92f84 44 = .ok (.areturn, 1)) ∧ (decode cJx4a65c_grow_92f84 45 = .ok (.aload_n 0, 1)) ∧ (decode cJx4a65c_grow_92f84 46 = .ok (.bipush 10, 2)) ∧ (decode cJx4a65c_grow_92f84 48 = .ok (.iload_n 1, 1)) ∧ (decode cJx4a65c_grow_92f84 49 = .ok (.invokestatic 79, 3)) ∧ (decode cJx4a65c_grow_92f84 52 = .ok (.anewarray 7, 3)) ∧ (decode cJx4a65c_grow_92f84 55 = .ok (.dup_x1, 1)) ∧ (decode cJx4a65c_grow_92f84 56 = .ok (.putfield 9, 3)) := by decide +kernel
theorem kd35_6 : (decode cJx4a65c_grow_92f84 59 = .ok (.areturn, 1)) := by decide +kernel
theorem lk_J7_300 : xLS RJ7 300 yJ7_copyOf_6403c cJ7_copyOf_6403c 4 (some (.array (.object "java/lang/Object"))) 3 := ⟨m_14_19, m_14_20, m_14_13, m_14_21, by decide +kernel⟩
theorem lk_Jx4a65c_66 : xLS RJx4a65c 66 yJ7_copyOf_1904c cJ7_copyOf_1904c 2 (some (.array (.object "java/lang/Object"))) 2 := ⟨m_14_11, m_14_12, m_14_13, m_14_14, by decide +kernel⟩
theorem lk_Jx4a65c_73 : xLS RJx4a65c 73 yJ8_newLength_cabcc cJ8_newLength_cabcc 4 (some .int) 3 := ⟨m_14_2, m_14_3, m_14_4, m_14_5, by decide +kernel⟩
theorem mm_J7_304 : Cond.methodLink RJ7 304 Lib.Math.min.name ∈ wsL_law ∧ Cond.static Lib.Math.min.name ∈ wsL_law ∧ Cond.initialized "java/lang/Math" ∈ wsL_law ∧ Cond.code Lib.Math.min.name Lib.Math.min.code 2 (some .int) ∈ wsL_law := ⟨m_15_0, m_15_1, m_13_23, m_15_2⟩
theorem mm_J8_194 : Cond.methodLink RJ8 194 Lib.Math.max.name ∈ wsL_law ∧ Cond.static Lib.Math.max.name ∈ wsL_law ∧ Cond.initialized "java/lang/Math" ∈ wsL_law ∧ Cond.code Lib.Math.max.name Lib.Math.max.code 2 (some .int) ∈ wsL_law := ⟨m_14_6, m_13_22, m_13_23, m_14_0⟩
theorem mm_Jx4a65c_79 : Cond.methodLink RJx4a65c 79 Lib.Math.max.name ∈ wsL_law ∧ Cond.static Lib.Math.max.name ∈ wsL_law ∧ Cond.initialized "java/lang/Math" ∈ wsL_law ∧ Cond.code Lib.Math.max.name Lib.Math.max.code 2 (some .int) ∈ wsL_law := ⟨m_13_21, m_13_22, m_13_23, m_14_0⟩
theorem xrow_row (g : xG) (q : Nat) (f f' : Nat → Value) : xrow (xrow g q f) q f' = xrow g q f' := by
  funext b
  by_cases e : b = q
  · subst e; rw [xrow_s, xrow_s]
  · rw [xrow_o e, xrow_o e, xrow_o e]
theorem xs_n {S : xT} {g1 g : xG} {q b j : Nat} {p : Nat × Nat} {f : Nat → Value} (hg : g1 = xrow g q f) (h : S b = some p) (hq : S q = none) : g1 b j = g b j := by
  have e : b ≠ q := fun e => by rw [e, hq] at h; cases h
  rw [hg, xrow_o e]
theorem xLs_al {S S1 : xT} {g g1 : xG} {L : List (Nat × Nat)} {ts : List Nat} (h : xLs S g) (hm : xM L S g g1) (hn : L.all xnl = true) (hle : xLe S S1) (hw : ∀ b t n, S1 b = some (t, n) → S b = some (t, n) ∨ t ∈ ts) (hts : ∀ t ∈ ts, t ≠ 0 ∧ t ≠ 100 ∧ t ≠ 200 ∧ t ≠ 300) : xLs S1 g1 :=
  xLs_ext (xLs_mod h hm hn) hle (fun a t n hs ht => (hw a t n hs).elim id (fun q => by have := hts t q; omega))
def xNw2 (S S1 : xT) (ts : List Nat) : Prop := ∀ b t n, S1 b = some (t, n) → S b = some (t, n) ∨ t ∈ ts
theorem xNw2.rf {S : xT} {ts : List Nat} : xNw2 S S ts := fun _ _ _ h => Or.inl h
theorem xNw2.set {S : xT} {q t n : Nat} {ts : List Nat} (h : t ∈ ts) : xNw2 S (xset S q (t, n)) ts := by
  intro b u m hb
  by_cases e : b = q
  · subst e; rw [xset_s] at hb; cases hb; exact Or.inr h
  · rw [xset_o e] at hb; exact Or.inl hb
theorem xNw2.tr {S S1 S2 : xT} {ts us : List Nat} (h : xNw2 S S1 ts) (h2 : xNw2 S1 S2 us) (hs : ∀ t ∈ us, t ∈ ts) : xNw2 S S2 ts := by
  intro b t n hb
  rcases h2 b t n hb with w | w
  · exact h b t n w
  · exact Or.inr (hs t w)
theorem xNw2.mono {S S1 : xT} {ts us : List Nat} (h : xNw2 S S1 ts) (hs : ∀ t ∈ ts, t ∈ us) : xNw2 S S1 us := fun b t n hb => (h b t n hb).imp id (hs t)
def xcn (n : Nat) : Nat := if n = 0 then 10 else n + n / 2
theorem xcn_in {n : Nat} (h : n ∈ xcaps) (h2 : n ≤ 200) : xcn n ∈ xcaps ∧ n < xcn n ∧ xcn n ≤ 244 := by
  have : ∀ m ∈ xcaps, m ≤ 200 → xcn m ∈ xcaps ∧ m < xcn m ∧ xcn m ≤ 244 := by decide
  exact this n h h2
theorem xshr1 {n : Nat} {z : Int} (h : n ∈ xcaps) (e : iI (n : Int) >>> (iI 1 &&& 31) = iI z) (hz : -2147483648 ≤ z ∧ z ≤ 2147483647) : z = ((n / 2 : Nat) : Int) := by
  have k : ∀ m ∈ xcaps, iI (m : Int) >>> (iI 1 &&& 31) = iI ((m / 2 : Nat) : Int) := by decide
  have hc := xcaps_le h
  exact (iI_eq hz (by omega)).mp (e.symm.trans (k n h))
theorem xcpy_lo {f g : Nat → Value} {n k : Nat} (h : k < n) : va_cpy f g 0 0 n k = f k := by
  unfold va_cpy
  rw [if_pos (by omega)]
  congr 1
  omega
def xcs : List Nat := [0, 10, 25, 47, 80, 129, 202, 311, 474, 718]
def xrk (n : Nat) : Nat := (xcaps.idxOf n)
def xsk (n : Nat) : Nat := xcs.getD (xcaps.idxOf n) 0
theorem xrk_s {n : Nat} (h : n ∈ xcaps) (h2 : n ≤ 200) : xrk (xcn n) = xrk n + 1 ∧ xsk (xcn n) = xsk n + xcn n := by
  have : ∀ m ∈ xcaps, m ≤ 200 → xrk (xcn m) = xrk m + 1 ∧ xsk (xcn m) = xsk m + xcn m := by decide
  exact this n h h2
theorem xrk_le {n : Nat} (h : n ∈ xcaps) : xrk n ≤ 9 ∧ xsk n ≤ 718 := by
  have : ∀ m ∈ xcaps, xrk m ≤ 9 ∧ xsk m ≤ 718 := by decide
  exact this n h
set_option maxHeartbeats 4000000 in
set_option maxRecDepth 100000 in
theorem c_J8_newLength_cabcc (l : Launch) (D : va_G) (kA : Nat → ClassId) (b0 : Nat) (t0 : Nat → Nat) (S : xT) (g : xG) (x0 : Int) (x1 : Int) (x2 : Int) (hx0 : 0 ≤ x0 ∧ x0 ≤ 300) (hx1 : 1 ≤ x1 ∧ x1 ≤ 300) (hx2 : 0 ≤ x2 ∧ x2 ≤ 300) : xMt l yJ8_newLength_cabcc cJ8_newLength_cabcc 4 (some .int) 1 0 0 14 D kA b0 t0 [] [.int (iI x0), .int (iI x1), .int (iI x2)] S g (fun (r : Option Value) (S1 : xT) (g1 : xG) => S = S1 ∧ g = g1 ∧ ∃ z : Int, r = some (.int (iI z)) ∧ 1 ≤ z ∧ z ≤ 600 ∧ ((x1 ≤ x2 → z = x0 + x2) ∧ (x2 ≤ x1 → z = x0 + x1))) := by
  refine xEnterI (by decide) (by simp [lg_sl, Value.category]) [(0, .int (iI x0)), (1, .int (iI x1)), (2, .int (iI x2))] rfl ?_
  intro K E hK hret _ _ _
  refine X_iloadn hK (i := 0) 0 kd35_2.1 rfl rfl ?_
  refine X_iloadn hK (i := 1) 1 kd35_2.2.1 rfl rfl ?_
  refine X_iloadn hK (i := 2) 2 kd35_2.2.2.1 rfl rfl ?_
  refine X_mmax hK mm_J8_194 ⟨by decide, by simp [Value.category]⟩ (by decide) (by omega) (by omega) kd35_2.2.2.2.1 (fun z1 ez1 fz1 => ?_)
  have bz1 : 1 ≤ z1 ∧ z1 ≤ 300 := by omega
  refine X_iadd hK kd35_2.2.2.2.2.1 ?_
  refine X_istoren hK (i := 3) [(3, .int (iI (x0 + z1))), (0, .int (iI x0)), (1, .int (iI x1)), (2, .int (iI x2))] kd35_2.2.2.2.2.2.1 rfl (by decide) rfl ?_
  refine X_iconst hK kd35_2.2.2.2.2.2.2.1 ?_
  refine X_iloadn hK (i := 3) 0 kd35_2.2.2.2.2.2.2.2.1 rfl rfl ?_
  refine X_icmp_ge hK 21 (by omega) (by omega) kd35_2.2.2.2.2.2.2.2.2.1 (by decide) (fun c2 => False.elim (by omega)) (fun c2 => ?_)
  refine X_iloadn hK (i := 3) 0 kd35_2.2.2.2.2.2.2.2.2.2.1 rfl rfl ?_
  refine X_ldc hK (n := 2147483639) kd35_2.2.2.2.2.2.2.2.2.2.2.1 m_14_7 (by decide) ?_
  refine X_icmp_gt hK 21 (by omega) (by omega) kd35_2.2.2.2.2.2.2.2.2.2.2.2 (by decide) (fun c3 => False.elim (by omega)) (fun c3 => ?_)
  refine X_iloadn hK (i := 3) 0 kd35_3.1 rfl rfl ?_
  exact hret _ _ _ _ _ _ _ kd35_3.2.1 ⟨rfl, rfl, (x0 + z1), rfl, (by omega), (by omega), (by omega)⟩ (Nat.le_refl _) (Nat.le_refl _)

set_option maxHeartbeats 4000000 in
set_option maxRecDepth 100000 in
theorem c_copyOf3_10103 (l : Launch) (D : va_G) (kA : Nat → ClassId) (b0 : Nat) (t0 : Nat → Nat) (S : xT) (g : xG) (a0 n : Nat) (x1 : Int) (hs_a0 : S a0 = some (10103, n)) (hx1 : (n : Int) ≤ x1 ∧ x1 ≤ 300) : xMu l yJ7_copyOf_6403c cJ7_copyOf_6403c 4 (some (.array (.object "java/lang/Object"))) 1 1 x1.toNat 30 D kA b0 t0 [] [.ref a0, .int (iI x1), .ref (t0 2)] S g (fun (r : Option Value) (S1 : xT) (g1 : xG) (dc ds : Nat) => ∃ q : Nat, r = some (.ref q) ∧ S q = none ∧ S1 = xset S q (10103, x1.toNat) ∧ g1 = xrow g q (va_cpy (g a0) (fun _ => .null) 0 0 n) ∧ dc = 1 ∧ ds = x1.toNat) := by
  refine xEnterUA (Or.inr ⟨_, rfl⟩) (by decide) (by simp [lg_sl, Value.category]) [(0, .ref a0), (1, .int (iI x1)), (2, .ref (t0 2))] rfl ?_
  intro K E hK hret _ _ _ ht
  subst ht
  refine X_aloadn hK (i := 2) 2 kd35_0.2.2.2.2.2.2.1 rfl rfl ?_
  refine X_ldcM hK m_14_22 kd35_0.2.2.2.2.2.2.2.1 ?_
  refine X_acmp_ne hK 13 kd35_0.2.2.2.2.2.2.2.2.1 (by decide) (fun c1 => absurd rfl c1) (fun c1 => ?_)
  refine X_iloadn hK (i := 1) 1 kd35_0.2.2.2.2.2.2.2.2.2.1 rfl rfl ?_
  refine X_anew hK 10103 1 m_14_23 (by decide) sl_10103 (by omega) (by omega) (by omega) (by omega) kd35_0.2.2.2.2.2.2.2.2.2.2.1 (fun q S1 g1 hq0 hq hS1 hg1 hle hs_q => ?_)
  refine X_goto hK 24 kd35_0.2.2.2.2.2.2.2.2.2.2.2 (by decide) ?_
  refine X_astoren hK (i := 3) [(3, .ref q), (0, .ref a0), (1, .int (iI x1)), (2, .ref (E.2.2.2.2.2.2.2 2))] kd35_1.1 rfl (by decide) rfl ?_
  refine X_aloadn hK (i := 0) 1 kd35_1.2.1 rfl rfl ?_
  refine X_iconst hK kd35_1.2.2.1 ?_
  refine X_aloadn hK (i := 3) 0 kd35_1.2.2.2.1 rfl rfl ?_
  refine X_iconst hK kd35_1.2.2.2.2.1 ?_
  refine X_aloadn hK (i := 0) 1 kd35_1.2.2.2.2.2.1 rfl rfl ?_
  refine X_alen hK (i := 3) (ty := .object "java/lang/Object") (hle _ _ hs_a0) (by decide) (by decide) (fun _ => rfl) kd35_1.2.2.2.2.2.2.1 ?_
  refine X_iloadn hK (i := 1) 2 kd35_1.2.2.2.2.2.2.2.1 rfl rfl ?_
  refine X_mmin hK mm_J7_304 ⟨by decide, by simp [Value.category]⟩ (by omega) (by omega) (by omega) kd35_1.2.2.2.2.2.2.2.2.1 (fun z ez fz => ?_)
  have hz : z = (n : Int) := by omega
  subst hz
  refine X_copyO hK ⟨m_15_3, m_15_4, m_15_5, m_15_6⟩ (hle _ _ hs_a0) hs_q (by decide) ⟨by decide, rfl⟩ (fun _ _ h => h.1.2.2.2.1) sl_10103 (Or.inl hq0) (by omega) (by omega) (by omega) ⟨by decide, by simp [Value.category]; decide⟩ kd35_1.2.2.2.2.2.2.2.2.2.1 (fun g2 hg2 => ?_)
  refine X_aloadn hK (i := 3) 0 kd35_1.2.2.2.2.2.2.2.2.2.2.1 rfl rfl ?_
  have hne : a0 ≠ q := fun e => by rw [e, hq] at hs_a0; cases hs_a0
  refine hret _ _ _ _ _ _ _ kd35_1.2.2.2.2.2.2.2.2.2.2.2 (Or.inr ⟨_, rfl⟩) ⟨q, rfl, hq, hS1, ?_, rfl, (by omega)⟩ (by omega) (by omega)
  rw [hg2, hg1, xrow_s, xrow_o hne, xrow_row]
  rfl

set_option maxHeartbeats 4000000 in
set_option maxRecDepth 100000 in
theorem c_copyOf2_10103 (l : Launch) (D : va_G) (kA : Nat → ClassId) (b0 : Nat) (t0 : Nat → Nat) (S : xT) (g : xG) (a0 n : Nat) (x1 : Int) (hs_a0 : S a0 = some (10103, n)) (hx1 : (n : Int) ≤ x1 ∧ x1 ≤ 300) : xMu l yJ7_copyOf_1904c cJ7_copyOf_1904c 2 (some (.array (.object "java/lang/Object"))) 2 1 x1.toNat 53 D kA b0 t0 [] [.ref a0, .int (iI x1)] S g (fun (r : Option Value) (S1 : xT) (g1 : xG) (dc ds : Nat) => ∃ q : Nat, r = some (.ref q) ∧ S q = none ∧ S1 = xset S q (10103, x1.toNat) ∧ g1 = xrow g q (va_cpy (g a0) (fun _ => .null) 0 0 n) ∧ dc = 1 ∧ ds = x1.toNat) := by
  refine xEnterUA (Or.inr ⟨_, rfl⟩) (by decide) (by simp [lg_sl, Value.category]) [(0, .ref a0), (1, .int (iI x1))] rfl ?_
  intro K E hK hret _ _ _ ht
  subst ht
  refine X_aloadn hK (i := 0) 0 kd35_0.1 rfl rfl ?_
  refine X_iloadn hK (i := 1) 1 kd35_0.2.1 rfl rfl ?_
  refine X_aloadn hK (i := 0) 0 kd35_0.2.2.1 rfl rfl ?_
  refine X_getC hK hs_a0 (by decide) ⟨m_14_15, m_14_16, m_14_17, m_14_18⟩ ⟨by decide, by simp [Value.category]⟩ kd35_0.2.2.2.1 ?_
  refine X_callSU hK [.ref a0, .int (iI x1), .ref (E.2.2.2.2.2.2.2 2)] [] lk_J7_300 (c_copyOf3_10103 _ _ _ _ _ S g a0 n x1 hs_a0 hx1) kd35_0.2.2.2.2.1 rfl rfl (by simp [Value.category]) (by decide) (by omega) (by omega) (by decide) (fun r1 S1 g1 dc1 ds1 p1 q1 h1 => ?_)
  obtain ⟨q, rfl, hq, hS1, hg1, rfl, rfl⟩ := p1
  refine X_st [.ref q] rfl ?_
  exact hret _ _ _ _ _ _ _ kd35_0.2.2.2.2.2.1 (Or.inr ⟨_, rfl⟩) ⟨q, rfl, hq, hS1, hg1, (by omega), (by omega)⟩ (by omega) (by omega)

set_option maxHeartbeats 4000000 in
set_option maxRecDepth 100000 in
theorem c_grow1_0 (l : Launch) (D : va_G) (kA : Nat → ClassId) (b0 : Nat) (t0 : Nat → Nat) (S : xT) (g : xG) (a0 b n : Nat) (hs_a0 : S a0 = some (0, 0)) (eb : g a0 1 = .ref b) (hb : (S b = some (10103, n) ∧ n ≠ 0) ∨ (S b = some (20003, 0) ∧ n = 0)) (hn : n ∈ xcaps) (hn2 : n ≤ 200) (hem : ∀ c m, S c = some (20003, m) → c = t0 0) (x1 : Int) (hx1 : x1 = (n : Int) + 1) : xMu l yJx4a65c_grow_92f84 cJx4a65c_grow_92f84 4 (some (.array (.object "java/lang/Object"))) 3 1 244 74 D kA b0 t0 [(0, 1)] [.ref a0, .int (iI x1)] S g (fun (r : Option Value) (S1 : xT) (g1 : xG) (dc ds : Nat) => ∃ q : Nat, r = some (.ref q) ∧ S q = none ∧ S1 = xset S q (10103, xcn n) ∧ (∀ c k, c ≠ q → (c ≠ a0 ∨ k ≠ 1) → g1 c k = g c k) ∧ g1 a0 1 = .ref q ∧ (∀ k, k < n → g1 q k = g b k) ∧ dc = 1 ∧ ds = xcn n) := by
  refine xEnterUA (Or.inr ⟨_, rfl⟩) (by decide) (by simp [lg_sl, Value.category]) [(0, .ref a0), (1, .int (iI x1))] rfl ?_
  intro K E hK hret hS0 _ _ ht
  subst ht
  have hcn := xcn_in hn hn2
  refine X_aloadn hK (i := 0) 0 kd35_3.2.2.1 rfl rfl ?_
  refine X_getK hK fl_Jx4a65c_9_0 hs_a0 eb kd35_3.2.2.2.1 ?_
  rcases hb with ⟨hb, hnz⟩ | ⟨hb, h0⟩
  · refine X_alen hK (i := 3) (ty := .object "java/lang/Object") hb (by decide) (by decide) (fun _ => rfl) kd35_3.2.2.2.2.1 ?_
    refine X_istoren hK (i := 2) [(2, .int (iI ((n : Nat) : Int))), (0, .ref a0), (1, .int (iI x1))] kd35_3.2.2.2.2.2.1 rfl (by decide) rfl ?_
    refine X_iloadn hK (i := 2) 0 kd35_3.2.2.2.2.2.2.1 rfl rfl ?_
    refine X_if_gt hK 20 (by omega) kd35_3.2.2.2.2.2.2.2.1 (by decide) (fun c1 => ?_) (fun c1 => False.elim (by omega))
    · refine X_iloadn hK (i := 2) 0 kd35_4.1 rfl rfl ?_
      refine X_iloadn hK (i := 1) 2 kd35_4.2.1 rfl rfl ?_
      refine X_iloadn hK (i := 2) 0 kd35_4.2.2.1 rfl rfl ?_
      refine X_isub hK kd35_4.2.2.2.1 ?_
      refine X_iloadn hK (i := 2) 0 kd35_4.2.2.2.2.1 rfl rfl ?_
      refine X_iconst hK kd35_4.2.2.2.2.2.1 ?_
      refine X_ishr hK kd35_4.2.2.2.2.2.2.1 (fun z e l u => ?_)
      have hz := xshr1 hn e ⟨l, u⟩
      refine X_callS hK [.int (iI ((n : Nat) : Int)), .int (iI (x1 - ((n : Nat) : Int))), .int (iI z)] [] lk_Jx4a65c_73 (c_J8_newLength_cabcc _ _ _ _ _ S g ((n : Nat) : Int) (x1 - ((n : Nat) : Int)) z (by omega) (by omega) (by omega)) kd35_4.2.2.2.2.2.2.2.1 rfl rfl (by simp [Value.category]) (by decide) (by decide) (by decide) (by decide) (fun r2 S2 g2 p2 q2 h2 => ?_)
      obtain ⟨rfl, rfl, w, rfl, lw, uw, kw⟩ := p2
      refine X_st [.int (iI w)] rfl ?_
      have hw : w = ((xcn n : Nat) : Int) := by
        have : xcn n = n + n / 2 := by unfold xcn; rw [if_neg (by omega)]
        have h2 : ∀ m ∈ xcaps, 0 < m → 5 ≤ m / 2 := by decide
        have := h2 n hn (by omega)
        omega
      refine X_istoren hK (i := 3) [(3, .int (iI w)), (2, .int (iI ((n : Nat) : Int))), (0, .ref a0), (1, .int (iI x1))] kd35_4.2.2.2.2.2.2.2.2.1 rfl (by decide) rfl ?_
      refine X_aloadn hK (i := 0) 2 kd35_4.2.2.2.2.2.2.2.2.2.1 rfl rfl ?_
      refine X_aloadn hK (i := 0) 2 kd35_4.2.2.2.2.2.2.2.2.2.2.1 rfl rfl ?_
      refine X_getK hK fl_Jx4a65c_9_0 hs_a0 eb kd35_4.2.2.2.2.2.2.2.2.2.2.2 ?_
      refine X_iloadn hK (i := 3) 0 kd35_5.1 rfl rfl ?_
      refine X_callSU hK [.ref b, .int (iI w)] [.ref a0] lk_Jx4a65c_66 (c_copyOf2_10103 _ _ _ _ _ S g b n w hb (by omega)) kd35_5.2.1 rfl rfl (by simp [Value.category]) (by decide) (by omega) (by omega) (by decide) (fun r3 S3 g3 dc3 ds3 p3 q3 h3 => ?_)
      obtain ⟨q, rfl, hq, hS3, hg3, rfl, rfl⟩ := p3
      refine X_st [.ref q, .ref a0] rfl ?_
      refine X_dupx1 hK kd35_5.2.2.1 rfl rfl ?_
      have hwn : w.toNat = xcn n := by omega
      rw [hwn] at hS3
      have hs_q : S3 q = some (10103, xcn n) := by rw [hS3]; exact xset_s _ _ _
      have hne : a0 ≠ q := fun e => by rw [e, hq] at hs_a0; cases hs_a0
      refine X_putv hK fl_Jx4a65c_9_0 (q3 _ _ hs_a0) (by decide) (by rw [sl_0_1]; exact ⟨q, _, rfl, Or.inl hs_q⟩) rfl rfl kd35_5.2.2.2.1 (fun g4 hg4 => ?_)
      refine hret _ _ _ _ _ _ _ kd35_5.2.2.2.2.1 (Or.inr ⟨_, rfl⟩) ⟨q, rfl, hq, hS3, fun c k hc hk => ?_, xs_s hg4, fun k hk => ?_, (by omega), (by omega)⟩ (by omega) (by omega)
      · rw [hg4]
        rcases hk with hk | hk
        · rw [xup_a hk, hg3, xrow_o hc]
        · rw [xup_k hk, hg3, xrow_o hc]
      · rw [hg4, xup_a (Ne.symm hne), hg3, xrow_s, xcpy_lo hk]
  · subst h0
    refine X_alen hK (i := 3) (ty := .object "java/lang/Object") hb (by decide) (by decide) (fun _ => rfl) kd35_3.2.2.2.2.1 ?_
    refine X_istoren hK (i := 2) [(2, .int (iI ((0 : Nat) : Int))), (0, .ref a0), (1, .int (iI x1))] kd35_3.2.2.2.2.2.1 rfl (by decide) rfl ?_
    refine X_iloadn hK (i := 2) 0 kd35_3.2.2.2.2.2.2.1 rfl rfl ?_
    refine X_if_gt hK 20 (by omega) kd35_3.2.2.2.2.2.2.2.1 (by decide) (fun c1 => False.elim (by omega)) (fun c1 => ?_)
    refine X_aloadn hK (i := 0) 1 kd35_3.2.2.2.2.2.2.2.2.1 rfl rfl ?_
    refine X_getK hK fl_Jx4a65c_9_0 hs_a0 eb kd35_3.2.2.2.2.2.2.2.2.2.1 ?_
    refine X_getE hK m_4_23 kd35_3.2.2.2.2.2.2.2.2.2.2.1 ?_
    refine X_acmp_eq hK 45 kd35_3.2.2.2.2.2.2.2.2.2.2.2 (by decide) (fun c2 => ?_) (fun c2 => absurd (hem b 0 hb) c2)
    refine X_aloadn hK (i := 0) 1 kd35_5.2.2.2.2.2.1 rfl rfl ?_
    refine X_bipush hK kd35_5.2.2.2.2.2.2.1 (by decide) ?_
    refine X_iloadn hK (i := 1) 2 kd35_5.2.2.2.2.2.2.2.1 rfl rfl ?_
    refine X_mmax hK mm_Jx4a65c_79 ⟨by decide, by simp [Value.category]⟩ (by decide) (by omega) (by omega) kd35_5.2.2.2.2.2.2.2.2.1 (fun z ez fz => ?_)
    have hz : z = 10 := by omega
    subst hz
    refine X_anew hK 10103 1 m_14_1 (by decide) sl_10103 (by omega) (by omega) (by omega) (by omega) kd35_5.2.2.2.2.2.2.2.2.2.1 (fun q S1 g1 hq0 hq hS1 hg1 hle hs_q => ?_)
    refine X_dupx1 hK kd35_5.2.2.2.2.2.2.2.2.2.2.1 rfl rfl ?_
    have hne : a0 ≠ q := fun e => by rw [e, hq] at hs_a0; cases hs_a0
    refine X_putv hK fl_Jx4a65c_9_0 (hle _ _ hs_a0) (by decide) (by rw [sl_0_1]; exact ⟨q, _, rfl, Or.inl hs_q⟩) rfl rfl kd35_5.2.2.2.2.2.2.2.2.2.2.2 (fun g4 hg4 => ?_)
    refine hret _ _ _ _ _ _ _ kd35_6 (Or.inr ⟨_, rfl⟩) ⟨q, rfl, hq, hS1, fun c k hc hk => ?_, xs_s hg4, fun k hk => ?_, rfl, rfl⟩ (by omega) (by omega)
    · rw [hg4]
      rcases hk with hk | hk
      · rw [xup_a hk, hg1, xrow_o hc]
      · rw [xup_k hk, hg1, xrow_o hc]
    · omega

set_option maxHeartbeats 4000000 in
set_option maxRecDepth 100000 in
theorem c_copyOf3_10203 (l : Launch) (D : va_G) (kA : Nat → ClassId) (b0 : Nat) (t0 : Nat → Nat) (S : xT) (g : xG) (a0 n : Nat) (x1 : Int) (hs_a0 : S a0 = some (10203, n)) (hx1 : (n : Int) ≤ x1 ∧ x1 ≤ 300) : xMu l yJ7_copyOf_6403c cJ7_copyOf_6403c 4 (some (.array (.object "java/lang/Object"))) 1 1 x1.toNat 30 D kA b0 t0 [] [.ref a0, .int (iI x1), .ref (t0 2)] S g (fun (r : Option Value) (S1 : xT) (g1 : xG) (dc ds : Nat) => ∃ q : Nat, r = some (.ref q) ∧ S q = none ∧ S1 = xset S q (10203, x1.toNat) ∧ g1 = xrow g q (va_cpy (g a0) (fun _ => .null) 0 0 n) ∧ dc = 1 ∧ ds = x1.toNat) := by
  refine xEnterUA (Or.inr ⟨_, rfl⟩) (by decide) (by simp [lg_sl, Value.category]) [(0, .ref a0), (1, .int (iI x1)), (2, .ref (t0 2))] rfl ?_
  intro K E hK hret _ _ _ ht
  subst ht
  refine X_aloadn hK (i := 2) 2 kd35_0.2.2.2.2.2.2.1 rfl rfl ?_
  refine X_ldcM hK m_14_22 kd35_0.2.2.2.2.2.2.2.1 ?_
  refine X_acmp_ne hK 13 kd35_0.2.2.2.2.2.2.2.2.1 (by decide) (fun c1 => absurd rfl c1) (fun c1 => ?_)
  refine X_iloadn hK (i := 1) 1 kd35_0.2.2.2.2.2.2.2.2.2.1 rfl rfl ?_
  refine X_anew hK 10203 2 m_14_23 (by decide) sl_10203 (by omega) (by omega) (by omega) (by omega) kd35_0.2.2.2.2.2.2.2.2.2.2.1 (fun q S1 g1 hq0 hq hS1 hg1 hle hs_q => ?_)
  refine X_goto hK 24 kd35_0.2.2.2.2.2.2.2.2.2.2.2 (by decide) ?_
  refine X_astoren hK (i := 3) [(3, .ref q), (0, .ref a0), (1, .int (iI x1)), (2, .ref (E.2.2.2.2.2.2.2 2))] kd35_1.1 rfl (by decide) rfl ?_
  refine X_aloadn hK (i := 0) 1 kd35_1.2.1 rfl rfl ?_
  refine X_iconst hK kd35_1.2.2.1 ?_
  refine X_aloadn hK (i := 3) 0 kd35_1.2.2.2.1 rfl rfl ?_
  refine X_iconst hK kd35_1.2.2.2.2.1 ?_
  refine X_aloadn hK (i := 0) 1 kd35_1.2.2.2.2.2.1 rfl rfl ?_
  refine X_alen hK (i := 3) (ty := .object "java/lang/Object") (hle _ _ hs_a0) (by decide) (by decide) (fun _ => rfl) kd35_1.2.2.2.2.2.2.1 ?_
  refine X_iloadn hK (i := 1) 2 kd35_1.2.2.2.2.2.2.2.1 rfl rfl ?_
  refine X_mmin hK mm_J7_304 ⟨by decide, by simp [Value.category]⟩ (by omega) (by omega) (by omega) kd35_1.2.2.2.2.2.2.2.2.1 (fun z ez fz => ?_)
  have hz : z = (n : Int) := by omega
  subst hz
  refine X_copyO hK ⟨m_15_3, m_15_4, m_15_5, m_15_6⟩ (hle _ _ hs_a0) hs_q (by decide) ⟨by decide, rfl⟩ (fun _ _ h => h.2.2.1) sl_10203 (Or.inl hq0) (by omega) (by omega) (by omega) ⟨by decide, by simp [Value.category]; decide⟩ kd35_1.2.2.2.2.2.2.2.2.2.1 (fun g2 hg2 => ?_)
  refine X_aloadn hK (i := 3) 0 kd35_1.2.2.2.2.2.2.2.2.2.2.1 rfl rfl ?_
  have hne : a0 ≠ q := fun e => by rw [e, hq] at hs_a0; cases hs_a0
  refine hret _ _ _ _ _ _ _ kd35_1.2.2.2.2.2.2.2.2.2.2.2 (Or.inr ⟨_, rfl⟩) ⟨q, rfl, hq, hS1, ?_, rfl, (by omega)⟩ (by omega) (by omega)
  rw [hg2, hg1, xrow_s, xrow_o hne, xrow_row]
  rfl

set_option maxHeartbeats 4000000 in
set_option maxRecDepth 100000 in
theorem c_copyOf2_10203 (l : Launch) (D : va_G) (kA : Nat → ClassId) (b0 : Nat) (t0 : Nat → Nat) (S : xT) (g : xG) (a0 n : Nat) (x1 : Int) (hs_a0 : S a0 = some (10203, n)) (hx1 : (n : Int) ≤ x1 ∧ x1 ≤ 300) : xMu l yJ7_copyOf_1904c cJ7_copyOf_1904c 2 (some (.array (.object "java/lang/Object"))) 2 1 x1.toNat 53 D kA b0 t0 [] [.ref a0, .int (iI x1)] S g (fun (r : Option Value) (S1 : xT) (g1 : xG) (dc ds : Nat) => ∃ q : Nat, r = some (.ref q) ∧ S q = none ∧ S1 = xset S q (10203, x1.toNat) ∧ g1 = xrow g q (va_cpy (g a0) (fun _ => .null) 0 0 n) ∧ dc = 1 ∧ ds = x1.toNat) := by
  refine xEnterUA (Or.inr ⟨_, rfl⟩) (by decide) (by simp [lg_sl, Value.category]) [(0, .ref a0), (1, .int (iI x1))] rfl ?_
  intro K E hK hret _ _ _ ht
  subst ht
  refine X_aloadn hK (i := 0) 0 kd35_0.1 rfl rfl ?_
  refine X_iloadn hK (i := 1) 1 kd35_0.2.1 rfl rfl ?_
  refine X_aloadn hK (i := 0) 0 kd35_0.2.2.1 rfl rfl ?_
  refine X_getC hK hs_a0 (by decide) ⟨m_14_15, m_14_16, m_14_17, m_14_18⟩ ⟨by decide, by simp [Value.category]⟩ kd35_0.2.2.2.1 ?_
  refine X_callSU hK [.ref a0, .int (iI x1), .ref (E.2.2.2.2.2.2.2 2)] [] lk_J7_300 (c_copyOf3_10203 _ _ _ _ _ S g a0 n x1 hs_a0 hx1) kd35_0.2.2.2.2.1 rfl rfl (by simp [Value.category]) (by decide) (by omega) (by omega) (by decide) (fun r1 S1 g1 dc1 ds1 p1 q1 h1 => ?_)
  obtain ⟨q, rfl, hq, hS1, hg1, rfl, rfl⟩ := p1
  refine X_st [.ref q] rfl ?_
  exact hret _ _ _ _ _ _ _ kd35_0.2.2.2.2.2.1 (Or.inr ⟨_, rfl⟩) ⟨q, rfl, hq, hS1, hg1, (by omega), (by omega)⟩ (by omega) (by omega)

set_option maxHeartbeats 4000000 in
set_option maxRecDepth 100000 in
theorem c_grow1_100 (l : Launch) (D : va_G) (kA : Nat → ClassId) (b0 : Nat) (t0 : Nat → Nat) (S : xT) (g : xG) (a0 b n : Nat) (hs_a0 : S a0 = some (100, 0)) (eb : g a0 1 = .ref b) (hb : (S b = some (10203, n) ∧ n ≠ 0) ∨ (S b = some (20003, 0) ∧ n = 0)) (hn : n ∈ xcaps) (hn2 : n ≤ 200) (hem : ∀ c m, S c = some (20003, m) → c = t0 0) (x1 : Int) (hx1 : x1 = (n : Int) + 1) : xMu l yJx4a65c_grow_92f84 cJx4a65c_grow_92f84 4 (some (.array (.object "java/lang/Object"))) 3 1 244 74 D kA b0 t0 [(100, 1)] [.ref a0, .int (iI x1)] S g (fun (r : Option Value) (S1 : xT) (g1 : xG) (dc ds : Nat) => ∃ q : Nat, r = some (.ref q) ∧ S q = none ∧ S1 = xset S q (10203, xcn n) ∧ (∀ c k, c ≠ q → (c ≠ a0 ∨ k ≠ 1) → g1 c k = g c k) ∧ g1 a0 1 = .ref q ∧ (∀ k, k < n → g1 q k = g b k) ∧ dc = 1 ∧ ds = xcn n) := by
  refine xEnterUA (Or.inr ⟨_, rfl⟩) (by decide) (by simp [lg_sl, Value.category]) [(0, .ref a0), (1, .int (iI x1))] rfl ?_
  intro K E hK hret hS0 _ _ ht
  subst ht
  have hcn := xcn_in hn hn2
  refine X_aloadn hK (i := 0) 0 kd35_3.2.2.1 rfl rfl ?_
  refine X_getK hK fl_Jx4a65c_9_100 hs_a0 eb kd35_3.2.2.2.1 ?_
  rcases hb with ⟨hb, hnz⟩ | ⟨hb, h0⟩
  · refine X_alen hK (i := 3) (ty := .object "java/lang/Object") hb (by decide) (by decide) (fun _ => rfl) kd35_3.2.2.2.2.1 ?_
    refine X_istoren hK (i := 2) [(2, .int (iI ((n : Nat) : Int))), (0, .ref a0), (1, .int (iI x1))] kd35_3.2.2.2.2.2.1 rfl (by decide) rfl ?_
    refine X_iloadn hK (i := 2) 0 kd35_3.2.2.2.2.2.2.1 rfl rfl ?_
    refine X_if_gt hK 20 (by omega) kd35_3.2.2.2.2.2.2.2.1 (by decide) (fun c1 => ?_) (fun c1 => False.elim (by omega))
    · refine X_iloadn hK (i := 2) 0 kd35_4.1 rfl rfl ?_
      refine X_iloadn hK (i := 1) 2 kd35_4.2.1 rfl rfl ?_
      refine X_iloadn hK (i := 2) 0 kd35_4.2.2.1 rfl rfl ?_
      refine X_isub hK kd35_4.2.2.2.1 ?_
      refine X_iloadn hK (i := 2) 0 kd35_4.2.2.2.2.1 rfl rfl ?_
      refine X_iconst hK kd35_4.2.2.2.2.2.1 ?_
      refine X_ishr hK kd35_4.2.2.2.2.2.2.1 (fun z e l u => ?_)
      have hz := xshr1 hn e ⟨l, u⟩
      refine X_callS hK [.int (iI ((n : Nat) : Int)), .int (iI (x1 - ((n : Nat) : Int))), .int (iI z)] [] lk_Jx4a65c_73 (c_J8_newLength_cabcc _ _ _ _ _ S g ((n : Nat) : Int) (x1 - ((n : Nat) : Int)) z (by omega) (by omega) (by omega)) kd35_4.2.2.2.2.2.2.2.1 rfl rfl (by simp [Value.category]) (by decide) (by decide) (by decide) (by decide) (fun r2 S2 g2 p2 q2 h2 => ?_)
      obtain ⟨rfl, rfl, w, rfl, lw, uw, kw⟩ := p2
      refine X_st [.int (iI w)] rfl ?_
      have hw : w = ((xcn n : Nat) : Int) := by
        have : xcn n = n + n / 2 := by unfold xcn; rw [if_neg (by omega)]
        have h2 : ∀ m ∈ xcaps, 0 < m → 5 ≤ m / 2 := by decide
        have := h2 n hn (by omega)
        omega
      refine X_istoren hK (i := 3) [(3, .int (iI w)), (2, .int (iI ((n : Nat) : Int))), (0, .ref a0), (1, .int (iI x1))] kd35_4.2.2.2.2.2.2.2.2.1 rfl (by decide) rfl ?_
      refine X_aloadn hK (i := 0) 2 kd35_4.2.2.2.2.2.2.2.2.2.1 rfl rfl ?_
      refine X_aloadn hK (i := 0) 2 kd35_4.2.2.2.2.2.2.2.2.2.2.1 rfl rfl ?_
      refine X_getK hK fl_Jx4a65c_9_100 hs_a0 eb kd35_4.2.2.2.2.2.2.2.2.2.2.2 ?_
      refine X_iloadn hK (i := 3) 0 kd35_5.1 rfl rfl ?_
      refine X_callSU hK [.ref b, .int (iI w)] [.ref a0] lk_Jx4a65c_66 (c_copyOf2_10203 _ _ _ _ _ S g b n w hb (by omega)) kd35_5.2.1 rfl rfl (by simp [Value.category]) (by decide) (by omega) (by omega) (by decide) (fun r3 S3 g3 dc3 ds3 p3 q3 h3 => ?_)
      obtain ⟨q, rfl, hq, hS3, hg3, rfl, rfl⟩ := p3
      refine X_st [.ref q, .ref a0] rfl ?_
      refine X_dupx1 hK kd35_5.2.2.1 rfl rfl ?_
      have hwn : w.toNat = xcn n := by omega
      rw [hwn] at hS3
      have hs_q : S3 q = some (10203, xcn n) := by rw [hS3]; exact xset_s _ _ _
      have hne : a0 ≠ q := fun e => by rw [e, hq] at hs_a0; cases hs_a0
      refine X_putv hK fl_Jx4a65c_9_100 (q3 _ _ hs_a0) (by decide) (by rw [sl_100_1]; exact ⟨q, _, rfl, Or.inl hs_q⟩) rfl rfl kd35_5.2.2.2.1 (fun g4 hg4 => ?_)
      refine hret _ _ _ _ _ _ _ kd35_5.2.2.2.2.1 (Or.inr ⟨_, rfl⟩) ⟨q, rfl, hq, hS3, fun c k hc hk => ?_, xs_s hg4, fun k hk => ?_, (by omega), (by omega)⟩ (by omega) (by omega)
      · rw [hg4]
        rcases hk with hk | hk
        · rw [xup_a hk, hg3, xrow_o hc]
        · rw [xup_k hk, hg3, xrow_o hc]
      · rw [hg4, xup_a (Ne.symm hne), hg3, xrow_s, xcpy_lo hk]
  · subst h0
    refine X_alen hK (i := 3) (ty := .object "java/lang/Object") hb (by decide) (by decide) (fun _ => rfl) kd35_3.2.2.2.2.1 ?_
    refine X_istoren hK (i := 2) [(2, .int (iI ((0 : Nat) : Int))), (0, .ref a0), (1, .int (iI x1))] kd35_3.2.2.2.2.2.1 rfl (by decide) rfl ?_
    refine X_iloadn hK (i := 2) 0 kd35_3.2.2.2.2.2.2.1 rfl rfl ?_
    refine X_if_gt hK 20 (by omega) kd35_3.2.2.2.2.2.2.2.1 (by decide) (fun c1 => False.elim (by omega)) (fun c1 => ?_)
    refine X_aloadn hK (i := 0) 1 kd35_3.2.2.2.2.2.2.2.2.1 rfl rfl ?_
    refine X_getK hK fl_Jx4a65c_9_100 hs_a0 eb kd35_3.2.2.2.2.2.2.2.2.2.1 ?_
    refine X_getE hK m_4_23 kd35_3.2.2.2.2.2.2.2.2.2.2.1 ?_
    refine X_acmp_eq hK 45 kd35_3.2.2.2.2.2.2.2.2.2.2.2 (by decide) (fun c2 => ?_) (fun c2 => absurd (hem b 0 hb) c2)
    refine X_aloadn hK (i := 0) 1 kd35_5.2.2.2.2.2.1 rfl rfl ?_
    refine X_bipush hK kd35_5.2.2.2.2.2.2.1 (by decide) ?_
    refine X_iloadn hK (i := 1) 2 kd35_5.2.2.2.2.2.2.2.1 rfl rfl ?_
    refine X_mmax hK mm_Jx4a65c_79 ⟨by decide, by simp [Value.category]⟩ (by decide) (by omega) (by omega) kd35_5.2.2.2.2.2.2.2.2.1 (fun z ez fz => ?_)
    have hz : z = 10 := by omega
    subst hz
    refine X_anew hK 10203 2 m_14_1 (by decide) sl_10203 (by omega) (by omega) (by omega) (by omega) kd35_5.2.2.2.2.2.2.2.2.2.1 (fun q S1 g1 hq0 hq hS1 hg1 hle hs_q => ?_)
    refine X_dupx1 hK kd35_5.2.2.2.2.2.2.2.2.2.2.1 rfl rfl ?_
    have hne : a0 ≠ q := fun e => by rw [e, hq] at hs_a0; cases hs_a0
    refine X_putv hK fl_Jx4a65c_9_100 (hle _ _ hs_a0) (by decide) (by rw [sl_100_1]; exact ⟨q, _, rfl, Or.inl hs_q⟩) rfl rfl kd35_5.2.2.2.2.2.2.2.2.2.2.2 (fun g4 hg4 => ?_)
    refine hret _ _ _ _ _ _ _ kd35_6 (Or.inr ⟨_, rfl⟩) ⟨q, rfl, hq, hS1, fun c k hc hk => ?_, xs_s hg4, fun k hk => ?_, rfl, rfl⟩ (by omega) (by omega)
    · rw [hg4]
      rcases hk with hk | hk
      · rw [xup_a hk, hg1, xrow_o hc]
      · rw [xup_k hk, hg1, xrow_o hc]
    · omega

set_option maxHeartbeats 4000000 in
set_option maxRecDepth 100000 in
theorem c_copyOf3_10403 (l : Launch) (D : va_G) (kA : Nat → ClassId) (b0 : Nat) (t0 : Nat → Nat) (S : xT) (g : xG) (a0 n : Nat) (x1 : Int) (hs_a0 : S a0 = some (10403, n)) (hx1 : (n : Int) ≤ x1 ∧ x1 ≤ 300) : xMu l yJ7_copyOf_6403c cJ7_copyOf_6403c 4 (some (.array (.object "java/lang/Object"))) 1 1 x1.toNat 30 D kA b0 t0 [] [.ref a0, .int (iI x1), .ref (t0 2)] S g (fun (r : Option Value) (S1 : xT) (g1 : xG) (dc ds : Nat) => ∃ q : Nat, r = some (.ref q) ∧ S q = none ∧ S1 = xset S q (10403, x1.toNat) ∧ g1 = xrow g q (va_cpy (g a0) (fun _ => .null) 0 0 n) ∧ dc = 1 ∧ ds = x1.toNat) := by
  refine xEnterUA (Or.inr ⟨_, rfl⟩) (by decide) (by simp [lg_sl, Value.category]) [(0, .ref a0), (1, .int (iI x1)), (2, .ref (t0 2))] rfl ?_
  intro K E hK hret _ _ _ ht
  subst ht
  refine X_aloadn hK (i := 2) 2 kd35_0.2.2.2.2.2.2.1 rfl rfl ?_
  refine X_ldcM hK m_14_22 kd35_0.2.2.2.2.2.2.2.1 ?_
  refine X_acmp_ne hK 13 kd35_0.2.2.2.2.2.2.2.2.1 (by decide) (fun c1 => absurd rfl c1) (fun c1 => ?_)
  refine X_iloadn hK (i := 1) 1 kd35_0.2.2.2.2.2.2.2.2.2.1 rfl rfl ?_
  refine X_anew hK 10403 2 m_14_23 (by decide) sl_10403 (by omega) (by omega) (by omega) (by omega) kd35_0.2.2.2.2.2.2.2.2.2.2.1 (fun q S1 g1 hq0 hq hS1 hg1 hle hs_q => ?_)
  refine X_goto hK 24 kd35_0.2.2.2.2.2.2.2.2.2.2.2 (by decide) ?_
  refine X_astoren hK (i := 3) [(3, .ref q), (0, .ref a0), (1, .int (iI x1)), (2, .ref (E.2.2.2.2.2.2.2 2))] kd35_1.1 rfl (by decide) rfl ?_
  refine X_aloadn hK (i := 0) 1 kd35_1.2.1 rfl rfl ?_
  refine X_iconst hK kd35_1.2.2.1 ?_
  refine X_aloadn hK (i := 3) 0 kd35_1.2.2.2.1 rfl rfl ?_
  refine X_iconst hK kd35_1.2.2.2.2.1 ?_
  refine X_aloadn hK (i := 0) 1 kd35_1.2.2.2.2.2.1 rfl rfl ?_
  refine X_alen hK (i := 3) (ty := .object "java/lang/Object") (hle _ _ hs_a0) (by decide) (by decide) (fun _ => rfl) kd35_1.2.2.2.2.2.2.1 ?_
  refine X_iloadn hK (i := 1) 2 kd35_1.2.2.2.2.2.2.2.1 rfl rfl ?_
  refine X_mmin hK mm_J7_304 ⟨by decide, by simp [Value.category]⟩ (by omega) (by omega) (by omega) kd35_1.2.2.2.2.2.2.2.2.1 (fun z ez fz => ?_)
  have hz : z = (n : Int) := by omega
  subst hz
  refine X_copyO hK ⟨m_15_3, m_15_4, m_15_5, m_15_6⟩ (hle _ _ hs_a0) hs_q (by decide) ⟨by decide, rfl⟩ (fun _ _ h => h.2.2.1) sl_10403 (Or.inl hq0) (by omega) (by omega) (by omega) ⟨by decide, by simp [Value.category]; decide⟩ kd35_1.2.2.2.2.2.2.2.2.2.1 (fun g2 hg2 => ?_)
  refine X_aloadn hK (i := 3) 0 kd35_1.2.2.2.2.2.2.2.2.2.2.1 rfl rfl ?_
  have hne : a0 ≠ q := fun e => by rw [e, hq] at hs_a0; cases hs_a0
  refine hret _ _ _ _ _ _ _ kd35_1.2.2.2.2.2.2.2.2.2.2.2 (Or.inr ⟨_, rfl⟩) ⟨q, rfl, hq, hS1, ?_, rfl, (by omega)⟩ (by omega) (by omega)
  rw [hg2, hg1, xrow_s, xrow_o hne, xrow_row]
  rfl

set_option maxHeartbeats 4000000 in
set_option maxRecDepth 100000 in
theorem c_copyOf2_10403 (l : Launch) (D : va_G) (kA : Nat → ClassId) (b0 : Nat) (t0 : Nat → Nat) (S : xT) (g : xG) (a0 n : Nat) (x1 : Int) (hs_a0 : S a0 = some (10403, n)) (hx1 : (n : Int) ≤ x1 ∧ x1 ≤ 300) : xMu l yJ7_copyOf_1904c cJ7_copyOf_1904c 2 (some (.array (.object "java/lang/Object"))) 2 1 x1.toNat 53 D kA b0 t0 [] [.ref a0, .int (iI x1)] S g (fun (r : Option Value) (S1 : xT) (g1 : xG) (dc ds : Nat) => ∃ q : Nat, r = some (.ref q) ∧ S q = none ∧ S1 = xset S q (10403, x1.toNat) ∧ g1 = xrow g q (va_cpy (g a0) (fun _ => .null) 0 0 n) ∧ dc = 1 ∧ ds = x1.toNat) := by
  refine xEnterUA (Or.inr ⟨_, rfl⟩) (by decide) (by simp [lg_sl, Value.category]) [(0, .ref a0), (1, .int (iI x1))] rfl ?_
  intro K E hK hret _ _ _ ht
  subst ht
  refine X_aloadn hK (i := 0) 0 kd35_0.1 rfl rfl ?_
  refine X_iloadn hK (i := 1) 1 kd35_0.2.1 rfl rfl ?_
  refine X_aloadn hK (i := 0) 0 kd35_0.2.2.1 rfl rfl ?_
  refine X_getC hK hs_a0 (by decide) ⟨m_14_15, m_14_16, m_14_17, m_14_18⟩ ⟨by decide, by simp [Value.category]⟩ kd35_0.2.2.2.1 ?_
  refine X_callSU hK [.ref a0, .int (iI x1), .ref (E.2.2.2.2.2.2.2 2)] [] lk_J7_300 (c_copyOf3_10403 _ _ _ _ _ S g a0 n x1 hs_a0 hx1) kd35_0.2.2.2.2.1 rfl rfl (by simp [Value.category]) (by decide) (by omega) (by omega) (by decide) (fun r1 S1 g1 dc1 ds1 p1 q1 h1 => ?_)
  obtain ⟨q, rfl, hq, hS1, hg1, rfl, rfl⟩ := p1
  refine X_st [.ref q] rfl ?_
  exact hret _ _ _ _ _ _ _ kd35_0.2.2.2.2.2.1 (Or.inr ⟨_, rfl⟩) ⟨q, rfl, hq, hS1, hg1, (by omega), (by omega)⟩ (by omega) (by omega)

set_option maxHeartbeats 4000000 in
set_option maxRecDepth 100000 in
theorem c_grow1_200 (l : Launch) (D : va_G) (kA : Nat → ClassId) (b0 : Nat) (t0 : Nat → Nat) (S : xT) (g : xG) (a0 b n : Nat) (hs_a0 : S a0 = some (200, 0)) (eb : g a0 1 = .ref b) (hb : (S b = some (10403, n) ∧ n ≠ 0) ∨ (S b = some (20003, 0) ∧ n = 0)) (hn : n ∈ xcaps) (hn2 : n ≤ 200) (hem : ∀ c m, S c = some (20003, m) → c = t0 0) (x1 : Int) (hx1 : x1 = (n : Int) + 1) : xMu l yJx4a65c_grow_92f84 cJx4a65c_grow_92f84 4 (some (.array (.object "java/lang/Object"))) 3 1 244 74 D kA b0 t0 [(200, 1)] [.ref a0, .int (iI x1)] S g (fun (r : Option Value) (S1 : xT) (g1 : xG) (dc ds : Nat) => ∃ q : Nat, r = some (.ref q) ∧ S q = none ∧ S1 = xset S q (10403, xcn n) ∧ (∀ c k, c ≠ q → (c ≠ a0 ∨ k ≠ 1) → g1 c k = g c k) ∧ g1 a0 1 = .ref q ∧ (∀ k, k < n → g1 q k = g b k) ∧ dc = 1 ∧ ds = xcn n) := by
  refine xEnterUA (Or.inr ⟨_, rfl⟩) (by decide) (by simp [lg_sl, Value.category]) [(0, .ref a0), (1, .int (iI x1))] rfl ?_
  intro K E hK hret hS0 _ _ ht
  subst ht
  have hcn := xcn_in hn hn2
  refine X_aloadn hK (i := 0) 0 kd35_3.2.2.1 rfl rfl ?_
  refine X_getK hK fl_Jx4a65c_9_200 hs_a0 eb kd35_3.2.2.2.1 ?_
  rcases hb with ⟨hb, hnz⟩ | ⟨hb, h0⟩
  · refine X_alen hK (i := 3) (ty := .object "java/lang/Object") hb (by decide) (by decide) (fun _ => rfl) kd35_3.2.2.2.2.1 ?_
    refine X_istoren hK (i := 2) [(2, .int (iI ((n : Nat) : Int))), (0, .ref a0), (1, .int (iI x1))] kd35_3.2.2.2.2.2.1 rfl (by decide) rfl ?_
    refine X_iloadn hK (i := 2) 0 kd35_3.2.2.2.2.2.2.1 rfl rfl ?_
    refine X_if_gt hK 20 (by omega) kd35_3.2.2.2.2.2.2.2.1 (by decide) (fun c1 => ?_) (fun c1 => False.elim (by omega))
    · refine X_iloadn hK (i := 2) 0 kd35_4.1 rfl rfl ?_
      refine X_iloadn hK (i := 1) 2 kd35_4.2.1 rfl rfl ?_
      refine X_iloadn hK (i := 2) 0 kd35_4.2.2.1 rfl rfl ?_
      refine X_isub hK kd35_4.2.2.2.1 ?_
      refine X_iloadn hK (i := 2) 0 kd35_4.2.2.2.2.1 rfl rfl ?_
      refine X_iconst hK kd35_4.2.2.2.2.2.1 ?_
      refine X_ishr hK kd35_4.2.2.2.2.2.2.1 (fun z e l u => ?_)
      have hz := xshr1 hn e ⟨l, u⟩
      refine X_callS hK [.int (iI ((n : Nat) : Int)), .int (iI (x1 - ((n : Nat) : Int))), .int (iI z)] [] lk_Jx4a65c_73 (c_J8_newLength_cabcc _ _ _ _ _ S g ((n : Nat) : Int) (x1 - ((n : Nat) : Int)) z (by omega) (by omega) (by omega)) kd35_4.2.2.2.2.2.2.2.1 rfl rfl (by simp [Value.category]) (by decide) (by decide) (by decide) (by decide) (fun r2 S2 g2 p2 q2 h2 => ?_)
      obtain ⟨rfl, rfl, w, rfl, lw, uw, kw⟩ := p2
      refine X_st [.int (iI w)] rfl ?_
      have hw : w = ((xcn n : Nat) : Int) := by
        have : xcn n = n + n / 2 := by unfold xcn; rw [if_neg (by omega)]
        have h2 : ∀ m ∈ xcaps, 0 < m → 5 ≤ m / 2 := by decide
        have := h2 n hn (by omega)
        omega
      refine X_istoren hK (i := 3) [(3, .int (iI w)), (2, .int (iI ((n : Nat) : Int))), (0, .ref a0), (1, .int (iI x1))] kd35_4.2.2.2.2.2.2.2.2.1 rfl (by decide) rfl ?_
      refine X_aloadn hK (i := 0) 2 kd35_4.2.2.2.2.2.2.2.2.2.1 rfl rfl ?_
      refine X_aloadn hK (i := 0) 2 kd35_4.2.2.2.2.2.2.2.2.2.2.1 rfl rfl ?_
      refine X_getK hK fl_Jx4a65c_9_200 hs_a0 eb kd35_4.2.2.2.2.2.2.2.2.2.2.2 ?_
      refine X_iloadn hK (i := 3) 0 kd35_5.1 rfl rfl ?_
      refine X_callSU hK [.ref b, .int (iI w)] [.ref a0] lk_Jx4a65c_66 (c_copyOf2_10403 _ _ _ _ _ S g b n w hb (by omega)) kd35_5.2.1 rfl rfl (by simp [Value.category]) (by decide) (by omega) (by omega) (by decide) (fun r3 S3 g3 dc3 ds3 p3 q3 h3 => ?_)
      obtain ⟨q, rfl, hq, hS3, hg3, rfl, rfl⟩ := p3
      refine X_st [.ref q, .ref a0] rfl ?_
      refine X_dupx1 hK kd35_5.2.2.1 rfl rfl ?_
      have hwn : w.toNat = xcn n := by omega
      rw [hwn] at hS3
      have hs_q : S3 q = some (10403, xcn n) := by rw [hS3]; exact xset_s _ _ _
      have hne : a0 ≠ q := fun e => by rw [e, hq] at hs_a0; cases hs_a0
      refine X_putv hK fl_Jx4a65c_9_200 (q3 _ _ hs_a0) (by decide) (by rw [sl_200_1]; exact ⟨q, _, rfl, Or.inl hs_q⟩) rfl rfl kd35_5.2.2.2.1 (fun g4 hg4 => ?_)
      refine hret _ _ _ _ _ _ _ kd35_5.2.2.2.2.1 (Or.inr ⟨_, rfl⟩) ⟨q, rfl, hq, hS3, fun c k hc hk => ?_, xs_s hg4, fun k hk => ?_, (by omega), (by omega)⟩ (by omega) (by omega)
      · rw [hg4]
        rcases hk with hk | hk
        · rw [xup_a hk, hg3, xrow_o hc]
        · rw [xup_k hk, hg3, xrow_o hc]
      · rw [hg4, xup_a (Ne.symm hne), hg3, xrow_s, xcpy_lo hk]
  · subst h0
    refine X_alen hK (i := 3) (ty := .object "java/lang/Object") hb (by decide) (by decide) (fun _ => rfl) kd35_3.2.2.2.2.1 ?_
    refine X_istoren hK (i := 2) [(2, .int (iI ((0 : Nat) : Int))), (0, .ref a0), (1, .int (iI x1))] kd35_3.2.2.2.2.2.1 rfl (by decide) rfl ?_
    refine X_iloadn hK (i := 2) 0 kd35_3.2.2.2.2.2.2.1 rfl rfl ?_
    refine X_if_gt hK 20 (by omega) kd35_3.2.2.2.2.2.2.2.1 (by decide) (fun c1 => False.elim (by omega)) (fun c1 => ?_)
    refine X_aloadn hK (i := 0) 1 kd35_3.2.2.2.2.2.2.2.2.1 rfl rfl ?_
    refine X_getK hK fl_Jx4a65c_9_200 hs_a0 eb kd35_3.2.2.2.2.2.2.2.2.2.1 ?_
    refine X_getE hK m_4_23 kd35_3.2.2.2.2.2.2.2.2.2.2.1 ?_
    refine X_acmp_eq hK 45 kd35_3.2.2.2.2.2.2.2.2.2.2.2 (by decide) (fun c2 => ?_) (fun c2 => absurd (hem b 0 hb) c2)
    refine X_aloadn hK (i := 0) 1 kd35_5.2.2.2.2.2.1 rfl rfl ?_
    refine X_bipush hK kd35_5.2.2.2.2.2.2.1 (by decide) ?_
    refine X_iloadn hK (i := 1) 2 kd35_5.2.2.2.2.2.2.2.1 rfl rfl ?_
    refine X_mmax hK mm_Jx4a65c_79 ⟨by decide, by simp [Value.category]⟩ (by decide) (by omega) (by omega) kd35_5.2.2.2.2.2.2.2.2.1 (fun z ez fz => ?_)
    have hz : z = 10 := by omega
    subst hz
    refine X_anew hK 10403 2 m_14_1 (by decide) sl_10403 (by omega) (by omega) (by omega) (by omega) kd35_5.2.2.2.2.2.2.2.2.2.1 (fun q S1 g1 hq0 hq hS1 hg1 hle hs_q => ?_)
    refine X_dupx1 hK kd35_5.2.2.2.2.2.2.2.2.2.2.1 rfl rfl ?_
    have hne : a0 ≠ q := fun e => by rw [e, hq] at hs_a0; cases hs_a0
    refine X_putv hK fl_Jx4a65c_9_200 (hle _ _ hs_a0) (by decide) (by rw [sl_200_1]; exact ⟨q, _, rfl, Or.inl hs_q⟩) rfl rfl kd35_5.2.2.2.2.2.2.2.2.2.2.2 (fun g4 hg4 => ?_)
    refine hret _ _ _ _ _ _ _ kd35_6 (Or.inr ⟨_, rfl⟩) ⟨q, rfl, hq, hS1, fun c k hc hk => ?_, xs_s hg4, fun k hk => ?_, rfl, rfl⟩ (by omega) (by omega)
    · rw [hg4]
      rcases hk with hk | hk
      · rw [xup_a hk, hg1, xrow_o hc]
      · rw [xup_k hk, hg1, xrow_o hc]
    · omega

set_option maxHeartbeats 4000000 in
set_option maxRecDepth 100000 in
theorem c_copyOf3_10303 (l : Launch) (D : va_G) (kA : Nat → ClassId) (b0 : Nat) (t0 : Nat → Nat) (S : xT) (g : xG) (a0 n : Nat) (x1 : Int) (hs_a0 : S a0 = some (10303, n)) (hx1 : (n : Int) ≤ x1 ∧ x1 ≤ 300) : xMu l yJ7_copyOf_6403c cJ7_copyOf_6403c 4 (some (.array (.object "java/lang/Object"))) 1 1 x1.toNat 30 D kA b0 t0 [] [.ref a0, .int (iI x1), .ref (t0 2)] S g (fun (r : Option Value) (S1 : xT) (g1 : xG) (dc ds : Nat) => ∃ q : Nat, r = some (.ref q) ∧ S q = none ∧ S1 = xset S q (10303, x1.toNat) ∧ g1 = xrow g q (va_cpy (g a0) (fun _ => .null) 0 0 n) ∧ dc = 1 ∧ ds = x1.toNat) := by
  refine xEnterUA (Or.inr ⟨_, rfl⟩) (by decide) (by simp [lg_sl, Value.category]) [(0, .ref a0), (1, .int (iI x1)), (2, .ref (t0 2))] rfl ?_
  intro K E hK hret _ _ _ ht
  subst ht
  refine X_aloadn hK (i := 2) 2 kd35_0.2.2.2.2.2.2.1 rfl rfl ?_
  refine X_ldcM hK m_14_22 kd35_0.2.2.2.2.2.2.2.1 ?_
  refine X_acmp_ne hK 13 kd35_0.2.2.2.2.2.2.2.2.1 (by decide) (fun c1 => absurd rfl c1) (fun c1 => ?_)
  refine X_iloadn hK (i := 1) 1 kd35_0.2.2.2.2.2.2.2.2.2.1 rfl rfl ?_
  refine X_anew hK 10303 11 m_14_23 (by decide) sl_10303 (by omega) (by omega) (by omega) (by omega) kd35_0.2.2.2.2.2.2.2.2.2.2.1 (fun q S1 g1 hq0 hq hS1 hg1 hle hs_q => ?_)
  refine X_goto hK 24 kd35_0.2.2.2.2.2.2.2.2.2.2.2 (by decide) ?_
  refine X_astoren hK (i := 3) [(3, .ref q), (0, .ref a0), (1, .int (iI x1)), (2, .ref (E.2.2.2.2.2.2.2 2))] kd35_1.1 rfl (by decide) rfl ?_
  refine X_aloadn hK (i := 0) 1 kd35_1.2.1 rfl rfl ?_
  refine X_iconst hK kd35_1.2.2.1 ?_
  refine X_aloadn hK (i := 3) 0 kd35_1.2.2.2.1 rfl rfl ?_
  refine X_iconst hK kd35_1.2.2.2.2.1 ?_
  refine X_aloadn hK (i := 0) 1 kd35_1.2.2.2.2.2.1 rfl rfl ?_
  refine X_alen hK (i := 3) (ty := .object "java/lang/Object") (hle _ _ hs_a0) (by decide) (by decide) (fun _ => rfl) kd35_1.2.2.2.2.2.2.1 ?_
  refine X_iloadn hK (i := 1) 2 kd35_1.2.2.2.2.2.2.2.1 rfl rfl ?_
  refine X_mmin hK mm_J7_304 ⟨by decide, by simp [Value.category]⟩ (by omega) (by omega) (by omega) kd35_1.2.2.2.2.2.2.2.2.1 (fun z ez fz => ?_)
  have hz : z = (n : Int) := by omega
  subst hz
  refine X_copyO hK ⟨m_15_3, m_15_4, m_15_5, m_15_6⟩ (hle _ _ hs_a0) hs_q (by decide) ⟨by decide, rfl⟩ (fun _ _ h => h.1.2.2.2.2) sl_10303 (Or.inl hq0) (by omega) (by omega) (by omega) ⟨by decide, by simp [Value.category]; decide⟩ kd35_1.2.2.2.2.2.2.2.2.2.1 (fun g2 hg2 => ?_)
  refine X_aloadn hK (i := 3) 0 kd35_1.2.2.2.2.2.2.2.2.2.2.1 rfl rfl ?_
  have hne : a0 ≠ q := fun e => by rw [e, hq] at hs_a0; cases hs_a0
  refine hret _ _ _ _ _ _ _ kd35_1.2.2.2.2.2.2.2.2.2.2.2 (Or.inr ⟨_, rfl⟩) ⟨q, rfl, hq, hS1, ?_, rfl, (by omega)⟩ (by omega) (by omega)
  rw [hg2, hg1, xrow_s, xrow_o hne, xrow_row]
  rfl

set_option maxHeartbeats 4000000 in
set_option maxRecDepth 100000 in
theorem c_copyOf2_10303 (l : Launch) (D : va_G) (kA : Nat → ClassId) (b0 : Nat) (t0 : Nat → Nat) (S : xT) (g : xG) (a0 n : Nat) (x1 : Int) (hs_a0 : S a0 = some (10303, n)) (hx1 : (n : Int) ≤ x1 ∧ x1 ≤ 300) : xMu l yJ7_copyOf_1904c cJ7_copyOf_1904c 2 (some (.array (.object "java/lang/Object"))) 2 1 x1.toNat 53 D kA b0 t0 [] [.ref a0, .int (iI x1)] S g (fun (r : Option Value) (S1 : xT) (g1 : xG) (dc ds : Nat) => ∃ q : Nat, r = some (.ref q) ∧ S q = none ∧ S1 = xset S q (10303, x1.toNat) ∧ g1 = xrow g q (va_cpy (g a0) (fun _ => .null) 0 0 n) ∧ dc = 1 ∧ ds = x1.toNat) := by
  refine xEnterUA (Or.inr ⟨_, rfl⟩) (by decide) (by simp [lg_sl, Value.category]) [(0, .ref a0), (1, .int (iI x1))] rfl ?_
  intro K E hK hret _ _ _ ht
  subst ht
  refine X_aloadn hK (i := 0) 0 kd35_0.1 rfl rfl ?_
  refine X_iloadn hK (i := 1) 1 kd35_0.2.1 rfl rfl ?_
  refine X_aloadn hK (i := 0) 0 kd35_0.2.2.1 rfl rfl ?_
  refine X_getC hK hs_a0 (by decide) ⟨m_14_15, m_14_16, m_14_17, m_14_18⟩ ⟨by decide, by simp [Value.category]⟩ kd35_0.2.2.2.1 ?_
  refine X_callSU hK [.ref a0, .int (iI x1), .ref (E.2.2.2.2.2.2.2 2)] [] lk_J7_300 (c_copyOf3_10303 _ _ _ _ _ S g a0 n x1 hs_a0 hx1) kd35_0.2.2.2.2.1 rfl rfl (by simp [Value.category]) (by decide) (by omega) (by omega) (by decide) (fun r1 S1 g1 dc1 ds1 p1 q1 h1 => ?_)
  obtain ⟨q, rfl, hq, hS1, hg1, rfl, rfl⟩ := p1
  refine X_st [.ref q] rfl ?_
  exact hret _ _ _ _ _ _ _ kd35_0.2.2.2.2.2.1 (Or.inr ⟨_, rfl⟩) ⟨q, rfl, hq, hS1, hg1, (by omega), (by omega)⟩ (by omega) (by omega)

set_option maxHeartbeats 4000000 in
set_option maxRecDepth 100000 in
theorem c_grow1_300 (l : Launch) (D : va_G) (kA : Nat → ClassId) (b0 : Nat) (t0 : Nat → Nat) (S : xT) (g : xG) (a0 b n : Nat) (hs_a0 : S a0 = some (300, 0)) (eb : g a0 1 = .ref b) (hb : (S b = some (10303, n) ∧ n ≠ 0) ∨ (S b = some (20003, 0) ∧ n = 0)) (hn : n ∈ xcaps) (hn2 : n ≤ 200) (hem : ∀ c m, S c = some (20003, m) → c = t0 0) (x1 : Int) (hx1 : x1 = (n : Int) + 1) : xMu l yJx4a65c_grow_92f84 cJx4a65c_grow_92f84 4 (some (.array (.object "java/lang/Object"))) 3 1 244 74 D kA b0 t0 [(300, 1)] [.ref a0, .int (iI x1)] S g (fun (r : Option Value) (S1 : xT) (g1 : xG) (dc ds : Nat) => ∃ q : Nat, r = some (.ref q) ∧ S q = none ∧ S1 = xset S q (10303, xcn n) ∧ (∀ c k, c ≠ q → (c ≠ a0 ∨ k ≠ 1) → g1 c k = g c k) ∧ g1 a0 1 = .ref q ∧ (∀ k, k < n → g1 q k = g b k) ∧ dc = 1 ∧ ds = xcn n) := by
  refine xEnterUA (Or.inr ⟨_, rfl⟩) (by decide) (by simp [lg_sl, Value.category]) [(0, .ref a0), (1, .int (iI x1))] rfl ?_
  intro K E hK hret hS0 _ _ ht
  subst ht
  have hcn := xcn_in hn hn2
  refine X_aloadn hK (i := 0) 0 kd35_3.2.2.1 rfl rfl ?_
  refine X_getK hK fl_Jx4a65c_9_300 hs_a0 eb kd35_3.2.2.2.1 ?_
  rcases hb with ⟨hb, hnz⟩ | ⟨hb, h0⟩
  · refine X_alen hK (i := 3) (ty := .object "java/lang/Object") hb (by decide) (by decide) (fun _ => rfl) kd35_3.2.2.2.2.1 ?_
    refine X_istoren hK (i := 2) [(2, .int (iI ((n : Nat) : Int))), (0, .ref a0), (1, .int (iI x1))] kd35_3.2.2.2.2.2.1 rfl (by decide) rfl ?_
    refine X_iloadn hK (i := 2) 0 kd35_3.2.2.2.2.2.2.1 rfl rfl ?_
    refine X_if_gt hK 20 (by omega) kd35_3.2.2.2.2.2.2.2.1 (by decide) (fun c1 => ?_) (fun c1 => False.elim (by omega))
    · refine X_iloadn hK (i := 2) 0 kd35_4.1 rfl rfl ?_
      refine X_iloadn hK (i := 1) 2 kd35_4.2.1 rfl rfl ?_
      refine X_iloadn hK (i := 2) 0 kd35_4.2.2.1 rfl rfl ?_
      refine X_isub hK kd35_4.2.2.2.1 ?_
      refine X_iloadn hK (i := 2) 0 kd35_4.2.2.2.2.1 rfl rfl ?_
      refine X_iconst hK kd35_4.2.2.2.2.2.1 ?_
      refine X_ishr hK kd35_4.2.2.2.2.2.2.1 (fun z e l u => ?_)
      have hz := xshr1 hn e ⟨l, u⟩
      refine X_callS hK [.int (iI ((n : Nat) : Int)), .int (iI (x1 - ((n : Nat) : Int))), .int (iI z)] [] lk_Jx4a65c_73 (c_J8_newLength_cabcc _ _ _ _ _ S g ((n : Nat) : Int) (x1 - ((n : Nat) : Int)) z (by omega) (by omega) (by omega)) kd35_4.2.2.2.2.2.2.2.1 rfl rfl (by simp [Value.category]) (by decide) (by decide) (by decide) (by decide) (fun r2 S2 g2 p2 q2 h2 => ?_)
      obtain ⟨rfl, rfl, w, rfl, lw, uw, kw⟩ := p2
      refine X_st [.int (iI w)] rfl ?_
      have hw : w = ((xcn n : Nat) : Int) := by
        have : xcn n = n + n / 2 := by unfold xcn; rw [if_neg (by omega)]
        have h2 : ∀ m ∈ xcaps, 0 < m → 5 ≤ m / 2 := by decide
        have := h2 n hn (by omega)
        omega
      refine X_istoren hK (i := 3) [(3, .int (iI w)), (2, .int (iI ((n : Nat) : Int))), (0, .ref a0), (1, .int (iI x1))] kd35_4.2.2.2.2.2.2.2.2.1 rfl (by decide) rfl ?_
      refine X_aloadn hK (i := 0) 2 kd35_4.2.2.2.2.2.2.2.2.2.1 rfl rfl ?_
      refine X_aloadn hK (i := 0) 2 kd35_4.2.2.2.2.2.2.2.2.2.2.1 rfl rfl ?_
      refine X_getK hK fl_Jx4a65c_9_300 hs_a0 eb kd35_4.2.2.2.2.2.2.2.2.2.2.2 ?_
      refine X_iloadn hK (i := 3) 0 kd35_5.1 rfl rfl ?_
      refine X_callSU hK [.ref b, .int (iI w)] [.ref a0] lk_Jx4a65c_66 (c_copyOf2_10303 _ _ _ _ _ S g b n w hb (by omega)) kd35_5.2.1 rfl rfl (by simp [Value.category]) (by decide) (by omega) (by omega) (by decide) (fun r3 S3 g3 dc3 ds3 p3 q3 h3 => ?_)
      obtain ⟨q, rfl, hq, hS3, hg3, rfl, rfl⟩ := p3
      refine X_st [.ref q, .ref a0] rfl ?_
      refine X_dupx1 hK kd35_5.2.2.1 rfl rfl ?_
      have hwn : w.toNat = xcn n := by omega
      rw [hwn] at hS3
      have hs_q : S3 q = some (10303, xcn n) := by rw [hS3]; exact xset_s _ _ _
      have hne : a0 ≠ q := fun e => by rw [e, hq] at hs_a0; cases hs_a0
      refine X_putv hK fl_Jx4a65c_9_300 (q3 _ _ hs_a0) (by decide) (by rw [sl_300_1]; exact ⟨q, _, rfl, Or.inl hs_q⟩) rfl rfl kd35_5.2.2.2.1 (fun g4 hg4 => ?_)
      refine hret _ _ _ _ _ _ _ kd35_5.2.2.2.2.1 (Or.inr ⟨_, rfl⟩) ⟨q, rfl, hq, hS3, fun c k hc hk => ?_, xs_s hg4, fun k hk => ?_, (by omega), (by omega)⟩ (by omega) (by omega)
      · rw [hg4]
        rcases hk with hk | hk
        · rw [xup_a hk, hg3, xrow_o hc]
        · rw [xup_k hk, hg3, xrow_o hc]
      · rw [hg4, xup_a (Ne.symm hne), hg3, xrow_s, xcpy_lo hk]
  · subst h0
    refine X_alen hK (i := 3) (ty := .object "java/lang/Object") hb (by decide) (by decide) (fun _ => rfl) kd35_3.2.2.2.2.1 ?_
    refine X_istoren hK (i := 2) [(2, .int (iI ((0 : Nat) : Int))), (0, .ref a0), (1, .int (iI x1))] kd35_3.2.2.2.2.2.1 rfl (by decide) rfl ?_
    refine X_iloadn hK (i := 2) 0 kd35_3.2.2.2.2.2.2.1 rfl rfl ?_
    refine X_if_gt hK 20 (by omega) kd35_3.2.2.2.2.2.2.2.1 (by decide) (fun c1 => False.elim (by omega)) (fun c1 => ?_)
    refine X_aloadn hK (i := 0) 1 kd35_3.2.2.2.2.2.2.2.2.1 rfl rfl ?_
    refine X_getK hK fl_Jx4a65c_9_300 hs_a0 eb kd35_3.2.2.2.2.2.2.2.2.2.1 ?_
    refine X_getE hK m_4_23 kd35_3.2.2.2.2.2.2.2.2.2.2.1 ?_
    refine X_acmp_eq hK 45 kd35_3.2.2.2.2.2.2.2.2.2.2.2 (by decide) (fun c2 => ?_) (fun c2 => absurd (hem b 0 hb) c2)
    refine X_aloadn hK (i := 0) 1 kd35_5.2.2.2.2.2.1 rfl rfl ?_
    refine X_bipush hK kd35_5.2.2.2.2.2.2.1 (by decide) ?_
    refine X_iloadn hK (i := 1) 2 kd35_5.2.2.2.2.2.2.2.1 rfl rfl ?_
    refine X_mmax hK mm_Jx4a65c_79 ⟨by decide, by simp [Value.category]⟩ (by decide) (by omega) (by omega) kd35_5.2.2.2.2.2.2.2.2.1 (fun z ez fz => ?_)
    have hz : z = 10 := by omega
    subst hz
    refine X_anew hK 10303 11 m_14_1 (by decide) sl_10303 (by omega) (by omega) (by omega) (by omega) kd35_5.2.2.2.2.2.2.2.2.2.1 (fun q S1 g1 hq0 hq hS1 hg1 hle hs_q => ?_)
    refine X_dupx1 hK kd35_5.2.2.2.2.2.2.2.2.2.2.1 rfl rfl ?_
    have hne : a0 ≠ q := fun e => by rw [e, hq] at hs_a0; cases hs_a0
    refine X_putv hK fl_Jx4a65c_9_300 (hle _ _ hs_a0) (by decide) (by rw [sl_300_1]; exact ⟨q, _, rfl, Or.inl hs_q⟩) rfl rfl kd35_5.2.2.2.2.2.2.2.2.2.2.2 (fun g4 hg4 => ?_)
    refine hret _ _ _ _ _ _ _ kd35_6 (Or.inr ⟨_, rfl⟩) ⟨q, rfl, hq, hS1, fun c k hc hk => ?_, xs_s hg4, fun k hk => ?_, rfl, rfl⟩ (by omega) (by omega)
    · rw [hg4]
      rcases hk with hk | hk
      · rw [xup_a hk, hg1, xrow_o hc]
      · rw [xup_k hk, hg1, xrow_o hc]
    · omega
