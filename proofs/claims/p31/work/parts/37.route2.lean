theorem m_1_15 : Cond.initialized RX9 ∈ wsL_law := ch_1 _ (List.mem_of_getElem? (i := 15) rfl)
theorem m_3_14 : Cond.arrayClass .int ∈ wsL_law := ch_3 _ (List.mem_of_getElem? (i := 14) rfl)
theorem m_53_23 : Cond.methodLink RX8 31 yX8_learn ∈ wsL_law := ch_53 _ (List.mem_of_getElem? (i := 23) rfl)
theorem m_54_0 : Cond.instanceMethod yX8_learn ∈ wsL_law := ch_54 _ (List.mem_of_getElem? (i := 0) rfl)
theorem m_54_1 : Cond.selects RX8 yX8_learn yX8_learn ∈ wsL_law := ch_54 _ (List.mem_of_getElem? (i := 1) rfl)
theorem m_54_2 : Cond.code yX8_learn cX8_learn 3 none ∈ wsL_law := ch_54 _ (List.mem_of_getElem? (i := 2) rfl)
theorem m_54_3 : Cond.constant RX8 57 (65535) ∈ wsL_law := ch_54 _ (List.mem_of_getElem? (i := 3) rfl)
theorem m_54_4 : Cond.methodLink RX8 51 yX9_pairAt ∈ wsL_law := ch_54 _ (List.mem_of_getElem? (i := 4) rfl)
theorem m_54_5 : Cond.instanceMethod yX9_pairAt ∈ wsL_law := ch_54 _ (List.mem_of_getElem? (i := 5) rfl)
theorem m_54_6 : Cond.selects RX9 yX9_pairAt yX9_pairAt ∈ wsL_law := ch_54 _ (List.mem_of_getElem? (i := 6) rfl)
theorem m_54_7 : Cond.code yX9_pairAt cX9_pairAt 3 (some .int) ∈ wsL_law := ch_54 _ (List.mem_of_getElem? (i := 7) rfl)
theorem m_54_8 : Cond.methodLink RX8 35 yX8_findSoonest ∈ wsL_law := ch_54 _ (List.mem_of_getElem? (i := 8) rfl)
theorem m_54_9 : Cond.instanceMethod yX8_findSoonest ∈ wsL_law := ch_54 _ (List.mem_of_getElem? (i := 9) rfl)
theorem m_54_10 : Cond.selects RX8 yX8_findSoonest yX8_findSoonest ∈ wsL_law := ch_54 _ (List.mem_of_getElem? (i := 10) rfl)
theorem m_54_11 : Cond.code yX8_findSoonest cX8_findSoonest 4 none ∈ wsL_law := ch_54 _ (List.mem_of_getElem? (i := 11) rfl)
theorem m_54_18 : Cond.methodLink RX8 39 yX8_firstAtEnd ∈ wsL_law := ch_54 _ (List.mem_of_getElem? (i := 18) rfl)
theorem m_54_19 : Cond.instanceMethod yX8_firstAtEnd ∈ wsL_law := ch_54 _ (List.mem_of_getElem? (i := 19) rfl)
theorem m_54_20 : Cond.selects RX8 yX8_firstAtEnd yX8_firstAtEnd ∈ wsL_law := ch_54 _ (List.mem_of_getElem? (i := 20) rfl)
theorem m_54_21 : Cond.code yX8_firstAtEnd cX8_firstAtEnd 4 (some .int) ∈ wsL_law := ch_54 _ (List.mem_of_getElem? (i := 21) rfl)
theorem m_54_22 : Cond.methodLink RX8 44 yX8_dropOthers ∈ wsL_law := ch_54 _ (List.mem_of_getElem? (i := 22) rfl)
theorem m_54_23 : Cond.instanceMethod yX8_dropOthers ∈ wsL_law := ch_54 _ (List.mem_of_getElem? (i := 23) rfl)
theorem m_55_0 : Cond.selects RX8 yX8_dropOthers yX8_dropOthers ∈ wsL_law := ch_55 _ (List.mem_of_getElem? (i := 0) rfl)
theorem m_55_1 : Cond.code yX8_dropOthers cX8_dropOthers 8 none ∈ wsL_law := ch_55 _ (List.mem_of_getElem? (i := 1) rfl)
theorem m_55_6 : Cond.methodLink RX8 48 yX8_walk ∈ wsL_law := ch_55 _ (List.mem_of_getElem? (i := 6) rfl)
theorem m_55_7 : Cond.instanceMethod yX8_walk ∈ wsL_law := ch_55 _ (List.mem_of_getElem? (i := 7) rfl)
theorem m_55_8 : Cond.selects RX8 yX8_walk yX8_walk ∈ wsL_law := ch_55 _ (List.mem_of_getElem? (i := 8) rfl)
theorem m_55_9 : Cond.code yX8_walk cX8_walk 5 none ∈ wsL_law := ch_55 _ (List.mem_of_getElem? (i := 9) rfl)
theorem kd37_0 : (decode cX8_drive 0 = .ok (.aload_n 0, 1)) ∧ (decode cX8_drive 1 = .ok (.aload_n 2, 1)) ∧ (decode cX8_drive 2 = .ok (.invokevirtual 31, 3)) ∧ (decode cX8_drive 5 = .ok (.aload_n 0, 1)) ∧ (decode cX8_drive 6 = .ok (.getfield 24, 3)) ∧ (decode cX8_drive 9 = .ok (.ifCond .ne 10, 3)) ∧ (decode cX8_drive 12 = .ok (.aload_n 0, 1)) ∧ (decode cX8_drive 13 = .ok (.iconst 0, 1)) ∧ (decode cX8_drive 14 = .ok (.putfield 28, 3)) ∧ (decode cX8_drive 17 = .ok (.iconst 0, 1)) ∧ (decode cX8_drive 18 = .ok (.ireturn, 1)) ∧ (decode cX8_drive 19 = .ok (.aload_n 0, 1)) := by decide +kernel
theorem kd37_1 : (decode cX8_drive 20 = .ok (.aload_n 1, 1)) ∧ (decode cX8_drive 21 = .ok (.invokevirtual 35, 3)) ∧ (decode cX8_drive 24 = .ok (.aload_n 0, 1)) ∧ (decode cX8_drive 25 = .ok (.invokevirtual 39, 3)) ∧ (decode cX8_drive 28 = .ok (.istore_n 3, 1)) ∧ (decode cX8_drive 29 = .ok (.iload_n 3, 1)) ∧ (decode cX8_drive 30 = .ok (.ldc 43, 2)) ∧ (decode cX8_drive 32 = .ok (.if_icmp .ne 5, 3)) ∧ (decode cX8_drive 35 = .ok (.iconst (-1), 1)) ∧ (decode cX8_drive 36 = .ok (.ireturn, 1)) ∧ (decode cX8_drive 37 = .ok (.aload_n 0, 1)) ∧ (decode cX8_drive 38 = .ok (.aload_n 1, 1)) := by decide +kernel
theorem kd37_2 : (decode cX8_drive 39 = .ok (.iload_n 3, 1)) ∧ (decode cX8_drive 40 = .ok (.invokevirtual 44, 3)) ∧ (decode cX8_drive 43 = .ok (.aload_n 0, 1)) ∧ (decode cX8_drive 44 = .ok (.aload_n 1, 1)) ∧ (decode cX8_drive 45 = .ok (.invokevirtual 48, 3)) ∧ (decode cX8_drive 48 = .ok (.iload_n 3, 1)) ∧ (decode cX8_drive 49 = .ok (.ireturn, 1)) ∧ (decode cX8_learn 0 = .ok (.aload_n 0, 1)) ∧ (decode cX8_learn 1 = .ok (.iconst 0, 1)) ∧ (decode cX8_learn 2 = .ok (.putfield 24, 3)) ∧ (decode cX8_learn 5 = .ok (.iconst 1, 1)) ∧ (decode cX8_learn 6 = .ok (.istore_n 2, 1)) := by decide +kernel
theorem kd37_3 : (decode cX8_learn 7 = .ok (.iload_n 2, 1)) ∧ (decode cX8_learn 8 = .ok (.bipush 10, 2)) ∧ (decode cX8_learn 10 = .ok (.if_icmp .ge 53, 3)) ∧ (decode cX8_learn 13 = .ok (.aload_n 1, 1)) ∧ (decode cX8_learn 14 = .ok (.iload_n 2, 1)) ∧ (decode cX8_learn 15 = .ok (.invokevirtual 51, 3)) ∧ (decode cX8_learn 18 = .ok (.ldc 57, 2)) ∧ (decode cX8_learn 20 = .ok (.if_icmp .eq 37, 3)) ∧ (decode cX8_learn 23 = .ok (.aload_n 0, 1)) ∧ (decode cX8_learn 24 = .ok (.getfield 11, 3)) ∧ (decode cX8_learn 27 = .ok (.aload_n 0, 1)) ∧ (decode cX8_learn 28 = .ok (.getfield 24, 3)) := by decide +kernel
theorem kd37_4 : (decode cX8_learn 31 = .ok (.iload_n 2, 1)) ∧ (decode cX8_learn 32 = .ok (.iastore, 1)) ∧ (decode cX8_learn 33 = .ok (.aload_n 0, 1)) ∧ (decode cX8_learn 34 = .ok (.getfield 15, 3)) ∧ (decode cX8_learn 37 = .ok (.aload_n 0, 1)) ∧ (decode cX8_learn 38 = .ok (.getfield 24, 3)) ∧ (decode cX8_learn 41 = .ok (.aload_n 1, 1)) ∧ (decode cX8_learn 42 = .ok (.iload_n 2, 1)) ∧ (decode cX8_learn 43 = .ok (.invokevirtual 51, 3)) ∧ (decode cX8_learn 46 = .ok (.iastore, 1)) ∧ (decode cX8_learn 47 = .ok (.aload_n 0, 1)) ∧ (decode cX8_learn 48 = .ok (.dup, 1)) := by decide +kernel
theorem kd37_5 : (decode cX8_learn 49 = .ok (.getfield 24, 3)) ∧ (decode cX8_learn 52 = .ok (.iconst 1, 1)) ∧ (decode cX8_learn 53 = .ok (.iadd, 1)) ∧ (decode cX8_learn 54 = .ok (.putfield 24, 3)) ∧ (decode cX8_learn 57 = .ok (.iinc 2 1, 3)) ∧ (decode cX8_learn 60 = .ok (.goto (-53), 3)) ∧ (decode cX8_learn 63 = .ok (.iconst 1, 1)) ∧ (decode cX8_learn 64 = .ok (.aload_n 0, 1)) ∧ (decode cX8_learn 65 = .ok (.getfield 24, 3)) ∧ (decode cX8_learn 68 = .ok (.ishl, 1)) ∧ (decode cX8_learn 69 = .ok (.bipush 9, 2)) ∧ (decode cX8_learn 71 = .ok (.imul, 1)) := by decide +kernel
theorem kd37_6 : (decode cX8_learn 72 = .ok (.istore_n 2, 1)) ∧ (decode cX8_learn 73 = .ok (.aload_n 0, 1)) ∧ (decode cX8_learn 74 = .ok (.getfield 21, 3)) ∧ (decode cX8_learn 77 = .ok (.arraylength, 1)) ∧ (decode cX8_learn 78 = .ok (.iload_n 2, 1)) ∧ (decode cX8_learn 79 = .ok (.if_icmp .ge 10, 3)) ∧ (decode cX8_learn 82 = .ok (.aload_n 0, 1)) ∧ (decode cX8_learn 83 = .ok (.iload_n 2, 1)) ∧ (decode cX8_learn 84 = .ok (.newarray .int, 2)) ∧ (decode cX8_learn 86 = .ok (.putfield 21, 3)) ∧ (decode cX8_learn 89 = .ok (.return_, 1)) := by decide +kernel
theorem lk_X8_31 : xLV RX8 31 yX8_learn cX8_learn 3 none 1 := ⟨m_53_23, m_54_0, m_54_1, m_2_22, m_54_2, by decide +kernel⟩
theorem lk_X8_35 : xLV RX8 35 yX8_findSoonest cX8_findSoonest 4 none 1 := ⟨m_54_8, m_54_9, m_54_10, m_2_22, m_54_11, by decide +kernel⟩
theorem lk_X8_39 : xLV RX8 39 yX8_firstAtEnd cX8_firstAtEnd 4 (some .int) 0 := ⟨m_54_18, m_54_19, m_54_20, m_2_22, m_54_21, by decide +kernel⟩
theorem lk_X8_44 : xLV RX8 44 yX8_dropOthers cX8_dropOthers 8 none 2 := ⟨m_54_22, m_54_23, m_55_0, m_2_22, m_55_1, by decide +kernel⟩
theorem lk_X8_48 : xLV RX8 48 yX8_walk cX8_walk 5 none 1 := ⟨m_55_6, m_55_7, m_55_8, m_2_22, m_55_9, by decide +kernel⟩
theorem lk_X8_51 : xLV RX8 51 yX9_pairAt cX9_pairAt 3 (some .int) 1 := ⟨m_54_4, m_54_5, m_54_6, m_1_15, m_54_7, by decide +kernel⟩
def xSn (S : xT) : Prop := ∀ b m, S b = some (13400, m) → m ≤ 4608
theorem xSn_set {S S1 : xT} {q n : Nat} (h : xSn S) (hS : S1 = xset S q (13400, n)) (hn : n ≤ 4608) : xSn S1 := by
  intro b m hb
  by_cases e : b = q
  · rw [e, hS, xset_s] at hb; cases hb; exact hn
  · rw [hS, xset_o e] at hb; exact h b m hb
theorem xst9 {z n : Int} {m : Nat} (p : z = ((2 ^ n.toNat : Nat) : Int)) (h : z * 9 ≤ m) : 9 * 2 ^ n.toNat ≤ m := by
  generalize 2 ^ n.toNat = q at p ⊢
  omega
set_option maxHeartbeats 4000000 in
set_option maxRecDepth 100000 in
theorem c_X8_learn (l : Launch) (D : va_G) (kA : Nat → ClassId) (b0 : Nat) (t0 : Nat → Nat) (S : xT) (g : xG) (a0 : Nat) (a1 : Nat) (hs_a0 : S a0 = some (9, 0)) (hs_a1 : S a1 = some (10, 0)) (hp0 : xSn S) : xMu l yX8_learn cX8_learn 3 none 1 1 4608 22 D kA b0 t0 [(9, 4), (13100, 0), (13200, 0), (9, 3)] [.ref a0, .ref a1] S g (fun (r : Option Value) (S1 : xT) (g1 : xG) (dc ds : Nat) => xNw2 S S1 [13400] ∧ r = none ∧ (∃ (n : Int) (b m : Nat), g1 a0 4 = .int (iI n) ∧ 0 ≤ n ∧ n ≤ 9 ∧ g1 a0 3 = .ref b ∧ S1 b = some (13400, m) ∧ 9 * 2 ^ n.toNat ≤ m ∧ m ≤ 4608) ∧ (dc ≤ 1 ∧ ds ≤ 4608) ∧ (xSn S1)) := by
  refine xEnterUV (by decide) (by simp [lg_sl, Value.category]) [(0, .ref a0), (1, .ref a1)] rfl ?_
  intro K E hK hret hS0 _ hini ht
  subst ht
  refine X_aloadn hK (i := 0) 0 kd37_2.2.2.2.2.2.2.2.1 rfl rfl ?_
  refine X_iconst hK kd37_2.2.2.2.2.2.2.2.2.1 ?_
  refine X_puti hK fl_X8_24_9 hs_a0 (by decide) sl_9_4 (by omega) (by omega) kd37_2.2.2.2.2.2.2.2.2.2.1 (fun g1 hg1 => ?_)
  refine X_iconst hK kd37_2.2.2.2.2.2.2.2.2.2.2.1 ?_
  refine X_istoren hK (i := 2) [(2, .int (iI 1)), (0, .ref a0), (1, .ref a1)] kd37_2.2.2.2.2.2.2.2.2.2.2.2 rfl (by decide) rfl ?_
  have P144 : ∀ (nP144 : Nat) (g120 : xG) (_ : xM [(9, 4), (13200, 0), (13100, 0)] S g1 g120) (z119 : Int) (_ : 1 ≤ z119) (_ : z119 ≤ 10) (q121 : Int) (_ : 0 ≤ q121) (_ : q121 ≤ 9) (_ : g120 a0 4 = .int (iI q121)) (_ : q121 ≤ z119 - 1) (_ : 26 - z119 < (nP144 : Int)), X K E 7 [(2, .int (iI z119)), (0, .ref a0), (1, .ref a1)] [] S g120 0 0 := by
    intro nP144
    induction nP144 with
    | zero => intro g120 hg120 z119 lz119 uz119 q121 lq121 uq121 eq121 v145 mP144; exact False.elim (by omega)
    | succ nP144 ihP144 =>
      intro g120 hg120 z119 lz119 uz119 q121 lq121 uq121 eq121 v145 mP144
      refine X_iloadn hK (i := 2) 0 kd37_3.1 rfl rfl ?_
      refine X_bipush hK kd37_3.2.1 (by decide) ?_
      refine X_icmp_ge hK 63 (by omega) (by omega) kd37_3.2.2.1 (by decide) (fun c146 => ?_) (fun c146 => ?_)
      · refine X_iconst hK kd37_5.2.2.2.2.2.2.1 ?_
        refine X_aloadn hK (i := 0) 1 kd37_5.2.2.2.2.2.2.2.1 rfl rfl ?_
        refine X_getK hK fl_X8_24_9 hs_a0 eq121 kd37_5.2.2.2.2.2.2.2.2.1 ?_
        refine X_ishl hK kd37_5.2.2.2.2.2.2.2.2.2.1 (fun z147 ez147 lz147 uz147 => ?_)
        have bz147 := xshlB 9 ez147 ⟨lz147, uz147⟩ (by omega) (by decide)
        have pz147 := xshl1 ez147 ⟨lz147, uz147⟩ (by omega)
        refine X_bipush hK kd37_5.2.2.2.2.2.2.2.2.2.2.1 (by decide) ?_
        refine X_imul hK kd37_5.2.2.2.2.2.2.2.2.2.2.2 ?_
        refine X_istoren hK (i := 2) [(2, .int (iI (z147 * 9))), (0, .ref a0), (1, .ref a1)] kd37_6.1 rfl (by decide) rfl ?_
        refine X_aloadn hK (i := 0) 1 kd37_6.2.1 rfl rfl ?_
        refine X_getw hK 13400 fl_X8_21_9 hs_a0 sl_9_3 kd37_6.2.2.1 (fun b148 nb148 eb148 hs_b148 => ?_)
        have vb148 := hp0 _ _ hs_b148
        refine X_alen hK (i := 0) (ty := .int) hs_b148 (by decide) (by decide) (fun _ => rfl) kd37_6.2.2.2.1 ?_
        refine X_iloadn hK (i := 2) 0 kd37_6.2.2.2.2.1 rfl rfl ?_
        refine X_icmp_ge hK 89 (by omega) (by omega) kd37_6.2.2.2.2.2.1 (by decide) (fun c149 => ?_) (fun c149 => ?_)
        · exact hret _ _ _ _ _ _ kd37_6.2.2.2.2.2.2.2.2.2.2 ⟨xNw2.rf, rfl, ⟨q121, b148, nb148, eq121, (by omega), (by omega), eb148, hs_b148, xst9 pz147 (by omega), (hp0 _ _ hs_b148)⟩, (by omega), hp0⟩ (by omega) (by omega)
        · refine X_aloadn hK (i := 0) 1 kd37_6.2.2.2.2.2.2.1 rfl rfl ?_
          refine X_iloadn hK (i := 2) 0 kd37_6.2.2.2.2.2.2.2.1 rfl rfl ?_
          refine X_newa hK (ty := .int) 13400 0 (.int 0) rfl (fun _ => rfl) rfl (by decide) m_3_14 (by omega) ⟨by show _ * 4 ≤ _; omega, by omega⟩ (by omega) (by omega) (fun _ _ h9 => h9) (fun S9 k9 => by rw [sl_13400]; exact ⟨0, rfl, by decide, by decide⟩) kd37_6.2.2.2.2.2.2.2.2.1 (fun b150 S151 g152 zb150 nb150 hSb150 hg152 qb150 hs_b150 => ?_)
          refine X_putw hK 13400 fl_X8_21_9 (qb150 _ _ hs_a0) (by decide) sl_9_3 hs_b150 kd37_6.2.2.2.2.2.2.2.2.2.1 (fun g153 hg153 => ?_)
          exact hret _ _ _ _ _ _ kd37_6.2.2.2.2.2.2.2.2.2.2 ⟨(xNw2.tr xNw2.rf (hSb150 ▸ xNw2.set (by decide)) (fun _ h => h)), rfl, ⟨q121, b150, ((z147 * 9) : Int).toNat, ((xs_k hg153 (by decide)).trans ((xs_n hg152 hs_a0 nb150).trans eq121)), (by omega), (by omega), (xs_s hg153), hs_b150, xst9 pz147 (by omega), (by omega)⟩, (by omega), (xSn_set hp0 hSb150 (by omega))⟩ (by omega) (by omega)
      · refine X_aloadn hK (i := 1) 2 kd37_3.2.2.2.1 rfl rfl ?_
        refine X_iloadn hK (i := 2) 0 kd37_3.2.2.2.2.1 rfl rfl ?_
        refine X_callV hK [.int (iI z119)] [] lk_X8_51 (c_X9_pairAt _ _ _ _ _ S g120 a1 z119 hs_a1 (by omega)) hs_a1 ⟨by decide, rfl⟩ kd37_3.2.2.2.2.2.1 rfl rfl (by simp [Value.category]) (by decide) (by omega) (by omega) (by decide) (fun r154 S156 g155 pr154 qr154 hg155 => ?_)
        obtain ⟨rfl, rfl, z157, rfl, lz157, uz157⟩ := pr154
        refine X_st [.int (iI z157)] rfl ?_
        refine X_ldc hK (n := 65535) kd37_3.2.2.2.2.2.2.1 m_54_3 (by decide) ?_
        refine X_icmp_eq hK 57 (by omega) (by omega) kd37_3.2.2.2.2.2.2.2.1 (by decide) (fun c158 => ?_) (fun c158 => ?_)
        · refine X_iinc hK (i := 2) (z := z119) (n := 1) 0 [(2, .int (iI (z119 + 1))), (0, .ref a0), (1, .ref a1)] kd37_5.2.2.2.2.1 rfl (by decide) rfl ?_
          refine X_goto hK 7 kd37_5.2.2.2.2.2.1 (by decide) ?_
          exact ihP144  g120 (xM.tr xM.rf xLe.rf hg120 (by decide)) (z119 + 1) (by omega) (by omega) q121 (by omega) (by omega) eq121 (by omega) (by omega)
        · refine X_aloadn hK (i := 0) 1 kd37_3.2.2.2.2.2.2.2.2.1 rfl rfl ?_
          refine X_getr hK 13100 9 fl_X8_11_9 hs_a0 sl_9_0 kd37_3.2.2.2.2.2.2.2.2.2.1 (fun b159 eb159 hs_b159 => ?_)
          refine X_aloadn hK (i := 0) 1 kd37_3.2.2.2.2.2.2.2.2.2.2.1 rfl rfl ?_
          refine X_getK hK fl_X8_24_9 hs_a0 eq121 kd37_3.2.2.2.2.2.2.2.2.2.2.2 ?_
          refine X_iloadn hK (i := 2) 0 kd37_4.1 rfl rfl ?_
          refine X_iast hK hs_b159 (by decide) (by decide) sl_13100 (by omega) (by omega) (by omega) (by omega) kd37_4.2.1 (fun g160 hg160 => ?_)
          refine X_aloadn hK (i := 0) 1 kd37_4.2.2.1 rfl rfl ?_
          refine X_getr hK 13200 9 fl_X8_15_9 hs_a0 sl_9_1 kd37_4.2.2.2.1 (fun b161 eb161 hs_b161 => ?_)
          refine X_aloadn hK (i := 0) 1 kd37_4.2.2.2.2.1 rfl rfl ?_
          refine X_getK hK fl_X8_24_9 hs_a0 ((xs_a hg160 (xne hs_a0 hs_b159 (by decide))).trans eq121) kd37_4.2.2.2.2.2.1 ?_
          refine X_aloadn hK (i := 1) 2 kd37_4.2.2.2.2.2.2.1 rfl rfl ?_
          refine X_iloadn hK (i := 2) 0 kd37_4.2.2.2.2.2.2.2.1 rfl rfl ?_
          refine X_callV hK [.int (iI z119)] [.int (iI q121), .ref b161] lk_X8_51 (c_X9_pairAt _ _ _ _ _ S g160 a1 z119 hs_a1 (by omega)) hs_a1 ⟨by decide, rfl⟩ kd37_4.2.2.2.2.2.2.2.2.1 rfl rfl (by simp [Value.category]) (by decide) (by omega) (by omega) (by decide) (fun r162 S164 g163 pr162 qr162 hg163 => ?_)
          obtain ⟨rfl, rfl, z165, rfl, lz165, uz165⟩ := pr162
          refine X_st [.int (iI z165), .int (iI q121), .ref b161] rfl ?_
          refine X_iast hK hs_b161 (by decide) (by decide) sl_13200 (by omega) (by omega) (by omega) (by omega) kd37_4.2.2.2.2.2.2.2.2.2.1 (fun g166 hg166 => ?_)
          refine X_aloadn hK (i := 0) 1 kd37_4.2.2.2.2.2.2.2.2.2.2.1 rfl rfl ?_
          refine X_dup hK kd37_4.2.2.2.2.2.2.2.2.2.2.2 rfl ?_
          refine X_getK hK fl_X8_24_9 hs_a0 ((xs_a hg166 (xne hs_a0 hs_b161 (by decide))).trans ((xs_a hg160 (xne hs_a0 hs_b159 (by decide))).trans eq121)) kd37_5.1 ?_
          refine X_iconst hK kd37_5.2.1 ?_
          refine X_iadd hK kd37_5.2.2.1 ?_
          refine X_puti hK fl_X8_24_9 hs_a0 (by decide) sl_9_4 (by omega) (by omega) kd37_5.2.2.2.1 (fun g167 hg167 => ?_)
          refine X_iinc hK (i := 2) (z := z119) (n := 1) 0 [(2, .int (iI (z119 + 1))), (0, .ref a0), (1, .ref a1)] kd37_5.2.2.2.2.1 rfl (by decide) rfl ?_
          refine X_goto hK 7 kd37_5.2.2.2.2.2.1 (by decide) ?_
          exact ihP144  g167 (xM_up (xM_ua (xM_ua (xM.tr xM.rf xLe.rf hg120 (by decide)) hg160 hs_b159 (by decide) (by decide)) hg166 hs_b161 (by decide) (by decide)) hg167 hs_a0 (by decide) (by decide)) (z119 + 1) (by omega) (by omega) (q121 + 1) (by omega) (by omega) (xs_s hg167) (by omega) (by omega)
  exact P144 ((26 - 1 : Int).toNat + 1) g1 xM.rf 1 (by omega) (by omega) 0 (by omega) (by omega) (xs_s hg1) (by omega) (by omega)

set_option maxHeartbeats 4000000 in
set_option maxRecDepth 100000 in
theorem c_X8_drive (l : Launch) (D : va_G) (kA : Nat → ClassId) (b0 : Nat) (t0 : Nat → Nat) (S : xT) (g : xG) (a0 : Nat) (a1 : Nat) (a2 : Nat) (hs_a0 : S a0 = some (9, 0)) (hs_a1 : S a1 = some (4, 0)) (hs_a2 : S a2 = some (10, 0)) (hp0 : xSn S) : xMu l yX8_drive cX8_drive 4 (some .int) 3 1 4608 63 D kA b0 t0 [(9, 4), (13100, 0), (13200, 0), (9, 3), (13400, 0), (9, 5), (13300, 0)] [.ref a0, .ref a1, .ref a2] S g (fun (r : Option Value) (S1 : xT) (g1 : xG) (dc ds : Nat) => xNw2 S S1 [13400] ∧ ∃ z : Int, r = some (.int (iI z)) ∧ (-2147483648) ≤ z ∧ z ≤ 999999 ∧ (dc ≤ 1 ∧ ds ≤ 4608) ∧ (xSn S1)) := by
  refine xEnterUI (by decide) (by simp [lg_sl, Value.category]) [(0, .ref a0), (1, .ref a1), (2, .ref a2)] rfl ?_
  intro K E hK hret hS0 _ hini ht
  subst ht
  refine X_aloadn hK (i := 0) 0 kd37_0.1 rfl rfl ?_
  refine X_aloadn hK (i := 2) 2 kd37_0.2.1 rfl rfl ?_
  refine X_callVU hK [.ref a2] [] lk_X8_31 (c_X8_learn _ _ _ _ _ S g a0 a2 hs_a0 hs_a2 hp0) hs_a0 ⟨by decide, rfl⟩ kd37_0.2.2.1 rfl rfl (by simp [Value.category]) (by decide) (by omega) (by omega) (by decide) (fun r1 S3 g2 dcr1 dsr1 pr1 qr1 hg2 => ?_)
  obtain ⟨wr1, rfl, k4, k5, k6⟩ := pr1
  refine X_st [] rfl ?_
  obtain ⟨z7, b8, n9, ez7, lz7, uz7, eb8, hs_b8, fz7, vz7⟩ := k4
  refine X_aloadn hK (i := 0) 0 kd37_0.2.2.2.1 rfl rfl ?_
  refine X_getK hK fl_X8_24_9 (qr1 _ _ hs_a0) ez7 kd37_0.2.2.2.2.1 ?_
  refine X_if_ne hK 19 (by omega) kd37_0.2.2.2.2.2.1 (by decide) (fun c10 => ?_) (fun c10 => ?_)
  · rcases (show z7 = 1 ∨ z7 = 2 ∨ z7 = 3 ∨ z7 = 4 ∨ z7 = 5 ∨ z7 = 6 ∨ z7 = 7 ∨ z7 = 8 ∨ z7 = 9 by omega) with c11 | c11 | c11 | c11 | c11 | c11 | c11 | c11 | c11
    · have h9c11 : 18 ≤ n9 := by have h8 := fz7; rw [c11] at h8; exact h8
      refine X_aloadn hK (i := 0) 0 kd37_0.2.2.2.2.2.2.2.2.2.2.2 rfl rfl ?_
      refine X_aloadn hK (i := 1) 1 kd37_1.1 rfl rfl ?_
      refine X_callV hK [.ref a1] [] lk_X8_35 (c_findSoonest_1 _ _ _ _ _ S3 g2 a0 a1 z7 b8 n9 (qr1 _ _ hs_a0) (qr1 _ _ hs_a1) (by omega) ez7 eb8 hs_b8 (by omega) (by omega)) (qr1 _ _ hs_a0) ⟨by decide, rfl⟩ kd37_1.2.1 rfl rfl (by simp [Value.category]) (by decide) (by omega) (by omega) (by decide) (fun r12 S14 g13 pr12 qr12 hg13 => ?_)
      obtain ⟨rfl, rfl⟩ := pr12
      refine X_st [] rfl ?_
      refine X_aloadn hK (i := 0) 0 kd37_1.2.2.1 rfl rfl ?_
      refine X_callV hK [] [] lk_X8_39 (c_firstAtEnd_1 _ _ _ _ _ S3 g13 a0 z7 b8 n9 (qr1 _ _ hs_a0) (by omega) ((hg13 a0 9 0 4 (qr1 _ _ hs_a0) (by decide)).trans ez7) ((hg13 a0 9 0 3 (qr1 _ _ hs_a0) (by decide)).trans eb8) hs_b8 (by omega) (by omega)) (qr1 _ _ hs_a0) ⟨by decide, rfl⟩ kd37_1.2.2.2.1 rfl rfl (by simp [Value.category]) (by decide) (by omega) (by omega) (by decide) (fun r15 S17 g16 pr15 qr15 hg16 => ?_)
      obtain ⟨rfl, rfl, z18, rfl, lz18, uz18⟩ := pr15
      refine X_st [.int (iI z18)] rfl ?_
      refine X_istoren hK (i := 3) [(3, .int (iI z18)), (0, .ref a0), (1, .ref a1), (2, .ref a2)] kd37_1.2.2.2.2.1 rfl (by decide) rfl ?_
      refine X_iloadn hK (i := 3) 0 kd37_1.2.2.2.2.2.1 rfl rfl ?_
      refine X_ldc hK (n := 1000000) kd37_1.2.2.2.2.2.2.1 m_53_22 (by decide) ?_
      refine X_icmp_ne hK 37 (by omega) (by omega) kd37_1.2.2.2.2.2.2.2.1 (by decide) (fun c19 => ?_) (fun c19 => ?_)
      · refine X_aloadn hK (i := 0) 1 kd37_1.2.2.2.2.2.2.2.2.2.2.1 rfl rfl ?_
        refine X_aloadn hK (i := 1) 2 kd37_1.2.2.2.2.2.2.2.2.2.2.2 rfl rfl ?_
        refine X_iloadn hK (i := 3) 0 kd37_2.1 rfl rfl ?_
        refine X_callV hK [.ref a1, .int (iI z18)] [] lk_X8_44 (c_dropOthers_1 _ _ _ _ _ S3 g13 a0 a1 z18 z7 b8 n9 (qr1 _ _ hs_a0) (qr1 _ _ hs_a1) (by omega) (by omega) ((hg13 a0 9 0 4 (qr1 _ _ hs_a0) (by decide)).trans ez7) ((hg13 a0 9 0 3 (qr1 _ _ hs_a0) (by decide)).trans eb8) hs_b8 (by omega) (by omega)) (qr1 _ _ hs_a0) ⟨by decide, rfl⟩ kd37_2.2.1 rfl rfl (by simp [Value.category]) (by decide) (by omega) (by omega) (by decide) (fun r20 S22 g21 pr20 qr20 hg21 => ?_)
        obtain ⟨rfl, rfl⟩ := pr20
        refine X_st [] rfl ?_
        refine X_aloadn hK (i := 0) 1 kd37_2.2.2.1 rfl rfl ?_
        refine X_aloadn hK (i := 1) 2 kd37_2.2.2.2.1 rfl rfl ?_
        refine X_callV hK [.ref a1] [] lk_X8_48 (c_walk_1 _ _ _ _ _ S3 g21 a0 a1 z7 b8 n9 (qr1 _ _ hs_a0) (qr1 _ _ hs_a1) (by omega) ((hg21 a0 9 0 4 (qr1 _ _ hs_a0) (by decide)).trans ((hg13 a0 9 0 4 (qr1 _ _ hs_a0) (by decide)).trans ez7)) ((hg21 a0 9 0 3 (qr1 _ _ hs_a0) (by decide)).trans ((hg13 a0 9 0 3 (qr1 _ _ hs_a0) (by decide)).trans eb8)) hs_b8 (by omega) (by omega)) (qr1 _ _ hs_a0) ⟨by decide, rfl⟩ kd37_2.2.2.2.2.1 rfl rfl (by simp [Value.category]) (by decide) (by omega) (by omega) (by decide) (fun r23 S25 g24 pr23 qr23 hg24 => ?_)
        obtain ⟨rfl, rfl⟩ := pr23
        refine X_st [] rfl ?_
        refine X_iloadn hK (i := 3) 0 kd37_2.2.2.2.2.2.1 rfl rfl ?_
        exact hret _ _ _ _ _ _ _ kd37_2.2.2.2.2.2.2.1 ⟨(xNw2.tr xNw2.rf wr1 (by decide)), z18, rfl, (by omega), (by omega), (by omega), k6⟩ (by omega) (by omega)
      · refine X_iconst hK kd37_1.2.2.2.2.2.2.2.2.1 ?_
        exact hret _ _ _ _ _ _ _ kd37_1.2.2.2.2.2.2.2.2.2.1 ⟨(xNw2.tr xNw2.rf wr1 (by decide)), (-1), rfl, (by omega), (by omega), (by omega), k6⟩ (by omega) (by omega)
    · have h9c11 : 36 ≤ n9 := by have h8 := fz7; rw [c11] at h8; exact h8
      refine X_aloadn hK (i := 0) 0 kd37_0.2.2.2.2.2.2.2.2.2.2.2 rfl rfl ?_
      refine X_aloadn hK (i := 1) 1 kd37_1.1 rfl rfl ?_
      refine X_callV hK [.ref a1] [] lk_X8_35 (c_findSoonest_2 _ _ _ _ _ S3 g2 a0 a1 z7 b8 n9 (qr1 _ _ hs_a0) (qr1 _ _ hs_a1) (by omega) ez7 eb8 hs_b8 (by omega) (by omega)) (qr1 _ _ hs_a0) ⟨by decide, rfl⟩ kd37_1.2.1 rfl rfl (by simp [Value.category]) (by decide) (by omega) (by omega) (by decide) (fun r26 S28 g27 pr26 qr26 hg27 => ?_)
      obtain ⟨rfl, rfl⟩ := pr26
      refine X_st [] rfl ?_
      refine X_aloadn hK (i := 0) 0 kd37_1.2.2.1 rfl rfl ?_
      refine X_callV hK [] [] lk_X8_39 (c_firstAtEnd_2 _ _ _ _ _ S3 g27 a0 z7 b8 n9 (qr1 _ _ hs_a0) (by omega) ((hg27 a0 9 0 4 (qr1 _ _ hs_a0) (by decide)).trans ez7) ((hg27 a0 9 0 3 (qr1 _ _ hs_a0) (by decide)).trans eb8) hs_b8 (by omega) (by omega)) (qr1 _ _ hs_a0) ⟨by decide, rfl⟩ kd37_1.2.2.2.1 rfl rfl (by simp [Value.category]) (by decide) (by omega) (by omega) (by decide) (fun r29 S31 g30 pr29 qr29 hg30 => ?_)
      obtain ⟨rfl, rfl, z32, rfl, lz32, uz32⟩ := pr29
      refine X_st [.int (iI z32)] rfl ?_
      refine X_istoren hK (i := 3) [(3, .int (iI z32)), (0, .ref a0), (1, .ref a1), (2, .ref a2)] kd37_1.2.2.2.2.1 rfl (by decide) rfl ?_
      refine X_iloadn hK (i := 3) 0 kd37_1.2.2.2.2.2.1 rfl rfl ?_
      refine X_ldc hK (n := 1000000) kd37_1.2.2.2.2.2.2.1 m_53_22 (by decide) ?_
      refine X_icmp_ne hK 37 (by omega) (by omega) kd37_1.2.2.2.2.2.2.2.1 (by decide) (fun c33 => ?_) (fun c33 => ?_)
      · refine X_aloadn hK (i := 0) 1 kd37_1.2.2.2.2.2.2.2.2.2.2.1 rfl rfl ?_
        refine X_aloadn hK (i := 1) 2 kd37_1.2.2.2.2.2.2.2.2.2.2.2 rfl rfl ?_
        refine X_iloadn hK (i := 3) 0 kd37_2.1 rfl rfl ?_
        refine X_callV hK [.ref a1, .int (iI z32)] [] lk_X8_44 (c_dropOthers_2 _ _ _ _ _ S3 g27 a0 a1 z32 z7 b8 n9 (qr1 _ _ hs_a0) (qr1 _ _ hs_a1) (by omega) (by omega) ((hg27 a0 9 0 4 (qr1 _ _ hs_a0) (by decide)).trans ez7) ((hg27 a0 9 0 3 (qr1 _ _ hs_a0) (by decide)).trans eb8) hs_b8 (by omega) (by omega)) (qr1 _ _ hs_a0) ⟨by decide, rfl⟩ kd37_2.2.1 rfl rfl (by simp [Value.category]) (by decide) (by omega) (by omega) (by decide) (fun r34 S36 g35 pr34 qr34 hg35 => ?_)
        obtain ⟨rfl, rfl⟩ := pr34
        refine X_st [] rfl ?_
        refine X_aloadn hK (i := 0) 1 kd37_2.2.2.1 rfl rfl ?_
        refine X_aloadn hK (i := 1) 2 kd37_2.2.2.2.1 rfl rfl ?_
        refine X_callV hK [.ref a1] [] lk_X8_48 (c_walk_2 _ _ _ _ _ S3 g35 a0 a1 z7 b8 n9 (qr1 _ _ hs_a0) (qr1 _ _ hs_a1) (by omega) ((hg35 a0 9 0 4 (qr1 _ _ hs_a0) (by decide)).trans ((hg27 a0 9 0 4 (qr1 _ _ hs_a0) (by decide)).trans ez7)) ((hg35 a0 9 0 3 (qr1 _ _ hs_a0) (by decide)).trans ((hg27 a0 9 0 3 (qr1 _ _ hs_a0) (by decide)).trans eb8)) hs_b8 (by omega) (by omega)) (qr1 _ _ hs_a0) ⟨by decide, rfl⟩ kd37_2.2.2.2.2.1 rfl rfl (by simp [Value.category]) (by decide) (by omega) (by omega) (by decide) (fun r37 S39 g38 pr37 qr37 hg38 => ?_)
        obtain ⟨rfl, rfl⟩ := pr37
        refine X_st [] rfl ?_
        refine X_iloadn hK (i := 3) 0 kd37_2.2.2.2.2.2.1 rfl rfl ?_
        exact hret _ _ _ _ _ _ _ kd37_2.2.2.2.2.2.2.1 ⟨(xNw2.tr xNw2.rf wr1 (by decide)), z32, rfl, (by omega), (by omega), (by omega), k6⟩ (by omega) (by omega)
      · refine X_iconst hK kd37_1.2.2.2.2.2.2.2.2.1 ?_
        exact hret _ _ _ _ _ _ _ kd37_1.2.2.2.2.2.2.2.2.2.1 ⟨(xNw2.tr xNw2.rf wr1 (by decide)), (-1), rfl, (by omega), (by omega), (by omega), k6⟩ (by omega) (by omega)
    · have h9c11 : 72 ≤ n9 := by have h8 := fz7; rw [c11] at h8; exact h8
      refine X_aloadn hK (i := 0) 0 kd37_0.2.2.2.2.2.2.2.2.2.2.2 rfl rfl ?_
      refine X_aloadn hK (i := 1) 1 kd37_1.1 rfl rfl ?_
      refine X_callV hK [.ref a1] [] lk_X8_35 (c_findSoonest_3 _ _ _ _ _ S3 g2 a0 a1 z7 b8 n9 (qr1 _ _ hs_a0) (qr1 _ _ hs_a1) (by omega) ez7 eb8 hs_b8 (by omega) (by omega)) (qr1 _ _ hs_a0) ⟨by decide, rfl⟩ kd37_1.2.1 rfl rfl (by simp [Value.category]) (by decide) (by omega) (by omega) (by decide) (fun r40 S42 g41 pr40 qr40 hg41 => ?_)
      obtain ⟨rfl, rfl⟩ := pr40
      refine X_st [] rfl ?_
      refine X_aloadn hK (i := 0) 0 kd37_1.2.2.1 rfl rfl ?_
      refine X_callV hK [] [] lk_X8_39 (c_firstAtEnd_3 _ _ _ _ _ S3 g41 a0 z7 b8 n9 (qr1 _ _ hs_a0) (by omega) ((hg41 a0 9 0 4 (qr1 _ _ hs_a0) (by decide)).trans ez7) ((hg41 a0 9 0 3 (qr1 _ _ hs_a0) (by decide)).trans eb8) hs_b8 (by omega) (by omega)) (qr1 _ _ hs_a0) ⟨by decide, rfl⟩ kd37_1.2.2.2.1 rfl rfl (by simp [Value.category]) (by decide) (by omega) (by omega) (by decide) (fun r43 S45 g44 pr43 qr43 hg44 => ?_)
      obtain ⟨rfl, rfl, z46, rfl, lz46, uz46⟩ := pr43
      refine X_st [.int (iI z46)] rfl ?_
      refine X_istoren hK (i := 3) [(3, .int (iI z46)), (0, .ref a0), (1, .ref a1), (2, .ref a2)] kd37_1.2.2.2.2.1 rfl (by decide) rfl ?_
      refine X_iloadn hK (i := 3) 0 kd37_1.2.2.2.2.2.1 rfl rfl ?_
      refine X_ldc hK (n := 1000000) kd37_1.2.2.2.2.2.2.1 m_53_22 (by decide) ?_
      refine X_icmp_ne hK 37 (by omega) (by omega) kd37_1.2.2.2.2.2.2.2.1 (by decide) (fun c47 => ?_) (fun c47 => ?_)
      · refine X_aloadn hK (i := 0) 1 kd37_1.2.2.2.2.2.2.2.2.2.2.1 rfl rfl ?_
        refine X_aloadn hK (i := 1) 2 kd37_1.2.2.2.2.2.2.2.2.2.2.2 rfl rfl ?_
        refine X_iloadn hK (i := 3) 0 kd37_2.1 rfl rfl ?_
        refine X_callV hK [.ref a1, .int (iI z46)] [] lk_X8_44 (c_dropOthers_3 _ _ _ _ _ S3 g41 a0 a1 z46 z7 b8 n9 (qr1 _ _ hs_a0) (qr1 _ _ hs_a1) (by omega) (by omega) ((hg41 a0 9 0 4 (qr1 _ _ hs_a0) (by decide)).trans ez7) ((hg41 a0 9 0 3 (qr1 _ _ hs_a0) (by decide)).trans eb8) hs_b8 (by omega) (by omega)) (qr1 _ _ hs_a0) ⟨by decide, rfl⟩ kd37_2.2.1 rfl rfl (by simp [Value.category]) (by decide) (by omega) (by omega) (by decide) (fun r48 S50 g49 pr48 qr48 hg49 => ?_)
        obtain ⟨rfl, rfl⟩ := pr48
        refine X_st [] rfl ?_
        refine X_aloadn hK (i := 0) 1 kd37_2.2.2.1 rfl rfl ?_
        refine X_aloadn hK (i := 1) 2 kd37_2.2.2.2.1 rfl rfl ?_
        refine X_callV hK [.ref a1] [] lk_X8_48 (c_walk_3 _ _ _ _ _ S3 g49 a0 a1 z7 b8 n9 (qr1 _ _ hs_a0) (qr1 _ _ hs_a1) (by omega) ((hg49 a0 9 0 4 (qr1 _ _ hs_a0) (by decide)).trans ((hg41 a0 9 0 4 (qr1 _ _ hs_a0) (by decide)).trans ez7)) ((hg49 a0 9 0 3 (qr1 _ _ hs_a0) (by decide)).trans ((hg41 a0 9 0 3 (qr1 _ _ hs_a0) (by decide)).trans eb8)) hs_b8 (by omega) (by omega)) (qr1 _ _ hs_a0) ⟨by decide, rfl⟩ kd37_2.2.2.2.2.1 rfl rfl (by simp [Value.category]) (by decide) (by omega) (by omega) (by decide) (fun r51 S53 g52 pr51 qr51 hg52 => ?_)
        obtain ⟨rfl, rfl⟩ := pr51
        refine X_st [] rfl ?_
        refine X_iloadn hK (i := 3) 0 kd37_2.2.2.2.2.2.1 rfl rfl ?_
        exact hret _ _ _ _ _ _ _ kd37_2.2.2.2.2.2.2.1 ⟨(xNw2.tr xNw2.rf wr1 (by decide)), z46, rfl, (by omega), (by omega), (by omega), k6⟩ (by omega) (by omega)
      · refine X_iconst hK kd37_1.2.2.2.2.2.2.2.2.1 ?_
        exact hret _ _ _ _ _ _ _ kd37_1.2.2.2.2.2.2.2.2.2.1 ⟨(xNw2.tr xNw2.rf wr1 (by decide)), (-1), rfl, (by omega), (by omega), (by omega), k6⟩ (by omega) (by omega)
    · have h9c11 : 144 ≤ n9 := by have h8 := fz7; rw [c11] at h8; exact h8
      refine X_aloadn hK (i := 0) 0 kd37_0.2.2.2.2.2.2.2.2.2.2.2 rfl rfl ?_
      refine X_aloadn hK (i := 1) 1 kd37_1.1 rfl rfl ?_
      refine X_callV hK [.ref a1] [] lk_X8_35 (c_findSoonest_4 _ _ _ _ _ S3 g2 a0 a1 z7 b8 n9 (qr1 _ _ hs_a0) (qr1 _ _ hs_a1) (by omega) ez7 eb8 hs_b8 (by omega) (by omega)) (qr1 _ _ hs_a0) ⟨by decide, rfl⟩ kd37_1.2.1 rfl rfl (by simp [Value.category]) (by decide) (by omega) (by omega) (by decide) (fun r54 S56 g55 pr54 qr54 hg55 => ?_)
      obtain ⟨rfl, rfl⟩ := pr54
      refine X_st [] rfl ?_
      refine X_aloadn hK (i := 0) 0 kd37_1.2.2.1 rfl rfl ?_
      refine X_callV hK [] [] lk_X8_39 (c_firstAtEnd_4 _ _ _ _ _ S3 g55 a0 z7 b8 n9 (qr1 _ _ hs_a0) (by omega) ((hg55 a0 9 0 4 (qr1 _ _ hs_a0) (by decide)).trans ez7) ((hg55 a0 9 0 3 (qr1 _ _ hs_a0) (by decide)).trans eb8) hs_b8 (by omega) (by omega)) (qr1 _ _ hs_a0) ⟨by decide, rfl⟩ kd37_1.2.2.2.1 rfl rfl (by simp [Value.category]) (by decide) (by omega) (by omega) (by decide) (fun r57 S59 g58 pr57 qr57 hg58 => ?_)
      obtain ⟨rfl, rfl, z60, rfl, lz60, uz60⟩ := pr57
      refine X_st [.int (iI z60)] rfl ?_
      refine X_istoren hK (i := 3) [(3, .int (iI z60)), (0, .ref a0), (1, .ref a1), (2, .ref a2)] kd37_1.2.2.2.2.1 rfl (by decide) rfl ?_
      refine X_iloadn hK (i := 3) 0 kd37_1.2.2.2.2.2.1 rfl rfl ?_
      refine X_ldc hK (n := 1000000) kd37_1.2.2.2.2.2.2.1 m_53_22 (by decide) ?_
      refine X_icmp_ne hK 37 (by omega) (by omega) kd37_1.2.2.2.2.2.2.2.1 (by decide) (fun c61 => ?_) (fun c61 => ?_)
      · refine X_aloadn hK (i := 0) 1 kd37_1.2.2.2.2.2.2.2.2.2.2.1 rfl rfl ?_
        refine X_aloadn hK (i := 1) 2 kd37_1.2.2.2.2.2.2.2.2.2.2.2 rfl rfl ?_
        refine X_iloadn hK (i := 3) 0 kd37_2.1 rfl rfl ?_
        refine X_callV hK [.ref a1, .int (iI z60)] [] lk_X8_44 (c_dropOthers_4 _ _ _ _ _ S3 g55 a0 a1 z60 z7 b8 n9 (qr1 _ _ hs_a0) (qr1 _ _ hs_a1) (by omega) (by omega) ((hg55 a0 9 0 4 (qr1 _ _ hs_a0) (by decide)).trans ez7) ((hg55 a0 9 0 3 (qr1 _ _ hs_a0) (by decide)).trans eb8) hs_b8 (by omega) (by omega)) (qr1 _ _ hs_a0) ⟨by decide, rfl⟩ kd37_2.2.1 rfl rfl (by simp [Value.category]) (by decide) (by omega) (by omega) (by decide) (fun r62 S64 g63 pr62 qr62 hg63 => ?_)
        obtain ⟨rfl, rfl⟩ := pr62
        refine X_st [] rfl ?_
        refine X_aloadn hK (i := 0) 1 kd37_2.2.2.1 rfl rfl ?_
        refine X_aloadn hK (i := 1) 2 kd37_2.2.2.2.1 rfl rfl ?_
        refine X_callV hK [.ref a1] [] lk_X8_48 (c_walk_4 _ _ _ _ _ S3 g63 a0 a1 z7 b8 n9 (qr1 _ _ hs_a0) (qr1 _ _ hs_a1) (by omega) ((hg63 a0 9 0 4 (qr1 _ _ hs_a0) (by decide)).trans ((hg55 a0 9 0 4 (qr1 _ _ hs_a0) (by decide)).trans ez7)) ((hg63 a0 9 0 3 (qr1 _ _ hs_a0) (by decide)).trans ((hg55 a0 9 0 3 (qr1 _ _ hs_a0) (by decide)).trans eb8)) hs_b8 (by omega) (by omega)) (qr1 _ _ hs_a0) ⟨by decide, rfl⟩ kd37_2.2.2.2.2.1 rfl rfl (by simp [Value.category]) (by decide) (by omega) (by omega) (by decide) (fun r65 S67 g66 pr65 qr65 hg66 => ?_)
        obtain ⟨rfl, rfl⟩ := pr65
        refine X_st [] rfl ?_
        refine X_iloadn hK (i := 3) 0 kd37_2.2.2.2.2.2.1 rfl rfl ?_
        exact hret _ _ _ _ _ _ _ kd37_2.2.2.2.2.2.2.1 ⟨(xNw2.tr xNw2.rf wr1 (by decide)), z60, rfl, (by omega), (by omega), (by omega), k6⟩ (by omega) (by omega)
      · refine X_iconst hK kd37_1.2.2.2.2.2.2.2.2.1 ?_
        exact hret _ _ _ _ _ _ _ kd37_1.2.2.2.2.2.2.2.2.2.1 ⟨(xNw2.tr xNw2.rf wr1 (by decide)), (-1), rfl, (by omega), (by omega), (by omega), k6⟩ (by omega) (by omega)
    · have h9c11 : 288 ≤ n9 := by have h8 := fz7; rw [c11] at h8; exact h8
      refine X_aloadn hK (i := 0) 0 kd37_0.2.2.2.2.2.2.2.2.2.2.2 rfl rfl ?_
      refine X_aloadn hK (i := 1) 1 kd37_1.1 rfl rfl ?_
      refine X_callV hK [.ref a1] [] lk_X8_35 (c_findSoonest_5 _ _ _ _ _ S3 g2 a0 a1 z7 b8 n9 (qr1 _ _ hs_a0) (qr1 _ _ hs_a1) (by omega) ez7 eb8 hs_b8 (by omega) (by omega)) (qr1 _ _ hs_a0) ⟨by decide, rfl⟩ kd37_1.2.1 rfl rfl (by simp [Value.category]) (by decide) (by omega) (by omega) (by decide) (fun r68 S70 g69 pr68 qr68 hg69 => ?_)
      obtain ⟨rfl, rfl⟩ := pr68
      refine X_st [] rfl ?_
      refine X_aloadn hK (i := 0) 0 kd37_1.2.2.1 rfl rfl ?_
      refine X_callV hK [] [] lk_X8_39 (c_firstAtEnd_5 _ _ _ _ _ S3 g69 a0 z7 b8 n9 (qr1 _ _ hs_a0) (by omega) ((hg69 a0 9 0 4 (qr1 _ _ hs_a0) (by decide)).trans ez7) ((hg69 a0 9 0 3 (qr1 _ _ hs_a0) (by decide)).trans eb8) hs_b8 (by omega) (by omega)) (qr1 _ _ hs_a0) ⟨by decide, rfl⟩ kd37_1.2.2.2.1 rfl rfl (by simp [Value.category]) (by decide) (by omega) (by omega) (by decide) (fun r71 S73 g72 pr71 qr71 hg72 => ?_)
      obtain ⟨rfl, rfl, z74, rfl, lz74, uz74⟩ := pr71
      refine X_st [.int (iI z74)] rfl ?_
      refine X_istoren hK (i := 3) [(3, .int (iI z74)), (0, .ref a0), (1, .ref a1), (2, .ref a2)] kd37_1.2.2.2.2.1 rfl (by decide) rfl ?_
      refine X_iloadn hK (i := 3) 0 kd37_1.2.2.2.2.2.1 rfl rfl ?_
      refine X_ldc hK (n := 1000000) kd37_1.2.2.2.2.2.2.1 m_53_22 (by decide) ?_
      refine X_icmp_ne hK 37 (by omega) (by omega) kd37_1.2.2.2.2.2.2.2.1 (by decide) (fun c75 => ?_) (fun c75 => ?_)
      · refine X_aloadn hK (i := 0) 1 kd37_1.2.2.2.2.2.2.2.2.2.2.1 rfl rfl ?_
        refine X_aloadn hK (i := 1) 2 kd37_1.2.2.2.2.2.2.2.2.2.2.2 rfl rfl ?_
        refine X_iloadn hK (i := 3) 0 kd37_2.1 rfl rfl ?_
        refine X_callV hK [.ref a1, .int (iI z74)] [] lk_X8_44 (c_dropOthers_5 _ _ _ _ _ S3 g69 a0 a1 z74 z7 b8 n9 (qr1 _ _ hs_a0) (qr1 _ _ hs_a1) (by omega) (by omega) ((hg69 a0 9 0 4 (qr1 _ _ hs_a0) (by decide)).trans ez7) ((hg69 a0 9 0 3 (qr1 _ _ hs_a0) (by decide)).trans eb8) hs_b8 (by omega) (by omega)) (qr1 _ _ hs_a0) ⟨by decide, rfl⟩ kd37_2.2.1 rfl rfl (by simp [Value.category]) (by decide) (by omega) (by omega) (by decide) (fun r76 S78 g77 pr76 qr76 hg77 => ?_)
        obtain ⟨rfl, rfl⟩ := pr76
        refine X_st [] rfl ?_
        refine X_aloadn hK (i := 0) 1 kd37_2.2.2.1 rfl rfl ?_
        refine X_aloadn hK (i := 1) 2 kd37_2.2.2.2.1 rfl rfl ?_
        refine X_callV hK [.ref a1] [] lk_X8_48 (c_walk_5 _ _ _ _ _ S3 g77 a0 a1 z7 b8 n9 (qr1 _ _ hs_a0) (qr1 _ _ hs_a1) (by omega) ((hg77 a0 9 0 4 (qr1 _ _ hs_a0) (by decide)).trans ((hg69 a0 9 0 4 (qr1 _ _ hs_a0) (by decide)).trans ez7)) ((hg77 a0 9 0 3 (qr1 _ _ hs_a0) (by decide)).trans ((hg69 a0 9 0 3 (qr1 _ _ hs_a0) (by decide)).trans eb8)) hs_b8 (by omega) (by omega)) (qr1 _ _ hs_a0) ⟨by decide, rfl⟩ kd37_2.2.2.2.2.1 rfl rfl (by simp [Value.category]) (by decide) (by omega) (by omega) (by decide) (fun r79 S81 g80 pr79 qr79 hg80 => ?_)
        obtain ⟨rfl, rfl⟩ := pr79
        refine X_st [] rfl ?_
        refine X_iloadn hK (i := 3) 0 kd37_2.2.2.2.2.2.1 rfl rfl ?_
        exact hret _ _ _ _ _ _ _ kd37_2.2.2.2.2.2.2.1 ⟨(xNw2.tr xNw2.rf wr1 (by decide)), z74, rfl, (by omega), (by omega), (by omega), k6⟩ (by omega) (by omega)
      · refine X_iconst hK kd37_1.2.2.2.2.2.2.2.2.1 ?_
        exact hret _ _ _ _ _ _ _ kd37_1.2.2.2.2.2.2.2.2.2.1 ⟨(xNw2.tr xNw2.rf wr1 (by decide)), (-1), rfl, (by omega), (by omega), (by omega), k6⟩ (by omega) (by omega)
    · have h9c11 : 576 ≤ n9 := by have h8 := fz7; rw [c11] at h8; exact h8
      refine X_aloadn hK (i := 0) 0 kd37_0.2.2.2.2.2.2.2.2.2.2.2 rfl rfl ?_
      refine X_aloadn hK (i := 1) 1 kd37_1.1 rfl rfl ?_
      refine X_callV hK [.ref a1] [] lk_X8_35 (c_findSoonest_6 _ _ _ _ _ S3 g2 a0 a1 z7 b8 n9 (qr1 _ _ hs_a0) (qr1 _ _ hs_a1) (by omega) ez7 eb8 hs_b8 (by omega) (by omega)) (qr1 _ _ hs_a0) ⟨by decide, rfl⟩ kd37_1.2.1 rfl rfl (by simp [Value.category]) (by decide) (by omega) (by omega) (by decide) (fun r82 S84 g83 pr82 qr82 hg83 => ?_)
      obtain ⟨rfl, rfl⟩ := pr82
      refine X_st [] rfl ?_
      refine X_aloadn hK (i := 0) 0 kd37_1.2.2.1 rfl rfl ?_
      refine X_callV hK [] [] lk_X8_39 (c_firstAtEnd_6 _ _ _ _ _ S3 g83 a0 z7 b8 n9 (qr1 _ _ hs_a0) (by omega) ((hg83 a0 9 0 4 (qr1 _ _ hs_a0) (by decide)).trans ez7) ((hg83 a0 9 0 3 (qr1 _ _ hs_a0) (by decide)).trans eb8) hs_b8 (by omega) (by omega)) (qr1 _ _ hs_a0) ⟨by decide, rfl⟩ kd37_1.2.2.2.1 rfl rfl (by simp [Value.category]) (by decide) (by omega) (by omega) (by decide) (fun r85 S87 g86 pr85 qr85 hg86 => ?_)
      obtain ⟨rfl, rfl, z88, rfl, lz88, uz88⟩ := pr85
      refine X_st [.int (iI z88)] rfl ?_
      refine X_istoren hK (i := 3) [(3, .int (iI z88)), (0, .ref a0), (1, .ref a1), (2, .ref a2)] kd37_1.2.2.2.2.1 rfl (by decide) rfl ?_
      refine X_iloadn hK (i := 3) 0 kd37_1.2.2.2.2.2.1 rfl rfl ?_
      refine X_ldc hK (n := 1000000) kd37_1.2.2.2.2.2.2.1 m_53_22 (by decide) ?_
      refine X_icmp_ne hK 37 (by omega) (by omega) kd37_1.2.2.2.2.2.2.2.1 (by decide) (fun c89 => ?_) (fun c89 => ?_)
      · refine X_aloadn hK (i := 0) 1 kd37_1.2.2.2.2.2.2.2.2.2.2.1 rfl rfl ?_
        refine X_aloadn hK (i := 1) 2 kd37_1.2.2.2.2.2.2.2.2.2.2.2 rfl rfl ?_
        refine X_iloadn hK (i := 3) 0 kd37_2.1 rfl rfl ?_
        refine X_callV hK [.ref a1, .int (iI z88)] [] lk_X8_44 (c_dropOthers_6 _ _ _ _ _ S3 g83 a0 a1 z88 z7 b8 n9 (qr1 _ _ hs_a0) (qr1 _ _ hs_a1) (by omega) (by omega) ((hg83 a0 9 0 4 (qr1 _ _ hs_a0) (by decide)).trans ez7) ((hg83 a0 9 0 3 (qr1 _ _ hs_a0) (by decide)).trans eb8) hs_b8 (by omega) (by omega)) (qr1 _ _ hs_a0) ⟨by decide, rfl⟩ kd37_2.2.1 rfl rfl (by simp [Value.category]) (by decide) (by omega) (by omega) (by decide) (fun r90 S92 g91 pr90 qr90 hg91 => ?_)
        obtain ⟨rfl, rfl⟩ := pr90
        refine X_st [] rfl ?_
        refine X_aloadn hK (i := 0) 1 kd37_2.2.2.1 rfl rfl ?_
        refine X_aloadn hK (i := 1) 2 kd37_2.2.2.2.1 rfl rfl ?_
        refine X_callV hK [.ref a1] [] lk_X8_48 (c_walk_6 _ _ _ _ _ S3 g91 a0 a1 z7 b8 n9 (qr1 _ _ hs_a0) (qr1 _ _ hs_a1) (by omega) ((hg91 a0 9 0 4 (qr1 _ _ hs_a0) (by decide)).trans ((hg83 a0 9 0 4 (qr1 _ _ hs_a0) (by decide)).trans ez7)) ((hg91 a0 9 0 3 (qr1 _ _ hs_a0) (by decide)).trans ((hg83 a0 9 0 3 (qr1 _ _ hs_a0) (by decide)).trans eb8)) hs_b8 (by omega) (by omega)) (qr1 _ _ hs_a0) ⟨by decide, rfl⟩ kd37_2.2.2.2.2.1 rfl rfl (by simp [Value.category]) (by decide) (by omega) (by omega) (by decide) (fun r93 S95 g94 pr93 qr93 hg94 => ?_)
        obtain ⟨rfl, rfl⟩ := pr93
        refine X_st [] rfl ?_
        refine X_iloadn hK (i := 3) 0 kd37_2.2.2.2.2.2.1 rfl rfl ?_
        exact hret _ _ _ _ _ _ _ kd37_2.2.2.2.2.2.2.1 ⟨(xNw2.tr xNw2.rf wr1 (by decide)), z88, rfl, (by omega), (by omega), (by omega), k6⟩ (by omega) (by omega)
      · refine X_iconst hK kd37_1.2.2.2.2.2.2.2.2.1 ?_
        exact hret _ _ _ _ _ _ _ kd37_1.2.2.2.2.2.2.2.2.2.1 ⟨(xNw2.tr xNw2.rf wr1 (by decide)), (-1), rfl, (by omega), (by omega), (by omega), k6⟩ (by omega) (by omega)
    · have h9c11 : 1152 ≤ n9 := by have h8 := fz7; rw [c11] at h8; exact h8
      refine X_aloadn hK (i := 0) 0 kd37_0.2.2.2.2.2.2.2.2.2.2.2 rfl rfl ?_
      refine X_aloadn hK (i := 1) 1 kd37_1.1 rfl rfl ?_
      refine X_callV hK [.ref a1] [] lk_X8_35 (c_findSoonest_7 _ _ _ _ _ S3 g2 a0 a1 z7 b8 n9 (qr1 _ _ hs_a0) (qr1 _ _ hs_a1) (by omega) ez7 eb8 hs_b8 (by omega) (by omega)) (qr1 _ _ hs_a0) ⟨by decide, rfl⟩ kd37_1.2.1 rfl rfl (by simp [Value.category]) (by decide) (by omega) (by omega) (by decide) (fun r96 S98 g97 pr96 qr96 hg97 => ?_)
      obtain ⟨rfl, rfl⟩ := pr96
      refine X_st [] rfl ?_
      refine X_aloadn hK (i := 0) 0 kd37_1.2.2.1 rfl rfl ?_
      refine X_callV hK [] [] lk_X8_39 (c_firstAtEnd_7 _ _ _ _ _ S3 g97 a0 z7 b8 n9 (qr1 _ _ hs_a0) (by omega) ((hg97 a0 9 0 4 (qr1 _ _ hs_a0) (by decide)).trans ez7) ((hg97 a0 9 0 3 (qr1 _ _ hs_a0) (by decide)).trans eb8) hs_b8 (by omega) (by omega)) (qr1 _ _ hs_a0) ⟨by decide, rfl⟩ kd37_1.2.2.2.1 rfl rfl (by simp [Value.category]) (by decide) (by omega) (by omega) (by decide) (fun r99 S101 g100 pr99 qr99 hg100 => ?_)
      obtain ⟨rfl, rfl, z102, rfl, lz102, uz102⟩ := pr99
      refine X_st [.int (iI z102)] rfl ?_
      refine X_istoren hK (i := 3) [(3, .int (iI z102)), (0, .ref a0), (1, .ref a1), (2, .ref a2)] kd37_1.2.2.2.2.1 rfl (by decide) rfl ?_
      refine X_iloadn hK (i := 3) 0 kd37_1.2.2.2.2.2.1 rfl rfl ?_
      refine X_ldc hK (n := 1000000) kd37_1.2.2.2.2.2.2.1 m_53_22 (by decide) ?_
      refine X_icmp_ne hK 37 (by omega) (by omega) kd37_1.2.2.2.2.2.2.2.1 (by decide) (fun c103 => ?_) (fun c103 => ?_)
      · refine X_aloadn hK (i := 0) 1 kd37_1.2.2.2.2.2.2.2.2.2.2.1 rfl rfl ?_
        refine X_aloadn hK (i := 1) 2 kd37_1.2.2.2.2.2.2.2.2.2.2.2 rfl rfl ?_
        refine X_iloadn hK (i := 3) 0 kd37_2.1 rfl rfl ?_
        refine X_callV hK [.ref a1, .int (iI z102)] [] lk_X8_44 (c_dropOthers_7 _ _ _ _ _ S3 g97 a0 a1 z102 z7 b8 n9 (qr1 _ _ hs_a0) (qr1 _ _ hs_a1) (by omega) (by omega) ((hg97 a0 9 0 4 (qr1 _ _ hs_a0) (by decide)).trans ez7) ((hg97 a0 9 0 3 (qr1 _ _ hs_a0) (by decide)).trans eb8) hs_b8 (by omega) (by omega)) (qr1 _ _ hs_a0) ⟨by decide, rfl⟩ kd37_2.2.1 rfl rfl (by simp [Value.category]) (by decide) (by omega) (by omega) (by decide) (fun r104 S106 g105 pr104 qr104 hg105 => ?_)
        obtain ⟨rfl, rfl⟩ := pr104
        refine X_st [] rfl ?_
        refine X_aloadn hK (i := 0) 1 kd37_2.2.2.1 rfl rfl ?_
        refine X_aloadn hK (i := 1) 2 kd37_2.2.2.2.1 rfl rfl ?_
        refine X_callV hK [.ref a1] [] lk_X8_48 (c_walk_7 _ _ _ _ _ S3 g105 a0 a1 z7 b8 n9 (qr1 _ _ hs_a0) (qr1 _ _ hs_a1) (by omega) ((hg105 a0 9 0 4 (qr1 _ _ hs_a0) (by decide)).trans ((hg97 a0 9 0 4 (qr1 _ _ hs_a0) (by decide)).trans ez7)) ((hg105 a0 9 0 3 (qr1 _ _ hs_a0) (by decide)).trans ((hg97 a0 9 0 3 (qr1 _ _ hs_a0) (by decide)).trans eb8)) hs_b8 (by omega) (by omega)) (qr1 _ _ hs_a0) ⟨by decide, rfl⟩ kd37_2.2.2.2.2.1 rfl rfl (by simp [Value.category]) (by decide) (by omega) (by omega) (by decide) (fun r107 S109 g108 pr107 qr107 hg108 => ?_)
        obtain ⟨rfl, rfl⟩ := pr107
        refine X_st [] rfl ?_
        refine X_iloadn hK (i := 3) 0 kd37_2.2.2.2.2.2.1 rfl rfl ?_
        exact hret _ _ _ _ _ _ _ kd37_2.2.2.2.2.2.2.1 ⟨(xNw2.tr xNw2.rf wr1 (by decide)), z102, rfl, (by omega), (by omega), (by omega), k6⟩ (by omega) (by omega)
      · refine X_iconst hK kd37_1.2.2.2.2.2.2.2.2.1 ?_
        exact hret _ _ _ _ _ _ _ kd37_1.2.2.2.2.2.2.2.2.2.1 ⟨(xNw2.tr xNw2.rf wr1 (by decide)), (-1), rfl, (by omega), (by omega), (by omega), k6⟩ (by omega) (by omega)
    · have h9c11 : 2304 ≤ n9 := by have h8 := fz7; rw [c11] at h8; exact h8
      refine X_aloadn hK (i := 0) 0 kd37_0.2.2.2.2.2.2.2.2.2.2.2 rfl rfl ?_
      refine X_aloadn hK (i := 1) 1 kd37_1.1 rfl rfl ?_
      refine X_callV hK [.ref a1] [] lk_X8_35 (c_findSoonest_8 _ _ _ _ _ S3 g2 a0 a1 z7 b8 n9 (qr1 _ _ hs_a0) (qr1 _ _ hs_a1) (by omega) ez7 eb8 hs_b8 (by omega) (by omega)) (qr1 _ _ hs_a0) ⟨by decide, rfl⟩ kd37_1.2.1 rfl rfl (by simp [Value.category]) (by decide) (by omega) (by omega) (by decide) (fun r110 S112 g111 pr110 qr110 hg111 => ?_)
      obtain ⟨rfl, rfl⟩ := pr110
      refine X_st [] rfl ?_
      refine X_aloadn hK (i := 0) 0 kd37_1.2.2.1 rfl rfl ?_
      refine X_callV hK [] [] lk_X8_39 (c_firstAtEnd_8 _ _ _ _ _ S3 g111 a0 z7 b8 n9 (qr1 _ _ hs_a0) (by omega) ((hg111 a0 9 0 4 (qr1 _ _ hs_a0) (by decide)).trans ez7) ((hg111 a0 9 0 3 (qr1 _ _ hs_a0) (by decide)).trans eb8) hs_b8 (by omega) (by omega)) (qr1 _ _ hs_a0) ⟨by decide, rfl⟩ kd37_1.2.2.2.1 rfl rfl (by simp [Value.category]) (by decide) (by omega) (by omega) (by decide) (fun r113 S115 g114 pr113 qr113 hg114 => ?_)
      obtain ⟨rfl, rfl, z116, rfl, lz116, uz116⟩ := pr113
      refine X_st [.int (iI z116)] rfl ?_
      refine X_istoren hK (i := 3) [(3, .int (iI z116)), (0, .ref a0), (1, .ref a1), (2, .ref a2)] kd37_1.2.2.2.2.1 rfl (by decide) rfl ?_
      refine X_iloadn hK (i := 3) 0 kd37_1.2.2.2.2.2.1 rfl rfl ?_
      refine X_ldc hK (n := 1000000) kd37_1.2.2.2.2.2.2.1 m_53_22 (by decide) ?_
      refine X_icmp_ne hK 37 (by omega) (by omega) kd37_1.2.2.2.2.2.2.2.1 (by decide) (fun c117 => ?_) (fun c117 => ?_)
      · refine X_aloadn hK (i := 0) 1 kd37_1.2.2.2.2.2.2.2.2.2.2.1 rfl rfl ?_
        refine X_aloadn hK (i := 1) 2 kd37_1.2.2.2.2.2.2.2.2.2.2.2 rfl rfl ?_
        refine X_iloadn hK (i := 3) 0 kd37_2.1 rfl rfl ?_
        refine X_callV hK [.ref a1, .int (iI z116)] [] lk_X8_44 (c_dropOthers_8 _ _ _ _ _ S3 g111 a0 a1 z116 z7 b8 n9 (qr1 _ _ hs_a0) (qr1 _ _ hs_a1) (by omega) (by omega) ((hg111 a0 9 0 4 (qr1 _ _ hs_a0) (by decide)).trans ez7) ((hg111 a0 9 0 3 (qr1 _ _ hs_a0) (by decide)).trans eb8) hs_b8 (by omega) (by omega)) (qr1 _ _ hs_a0) ⟨by decide, rfl⟩ kd37_2.2.1 rfl rfl (by simp [Value.category]) (by decide) (by omega) (by omega) (by decide) (fun r118 S120 g119 pr118 qr118 hg119 => ?_)
        obtain ⟨rfl, rfl⟩ := pr118
        refine X_st [] rfl ?_
        refine X_aloadn hK (i := 0) 1 kd37_2.2.2.1 rfl rfl ?_
        refine X_aloadn hK (i := 1) 2 kd37_2.2.2.2.1 rfl rfl ?_
        refine X_callV hK [.ref a1] [] lk_X8_48 (c_walk_8 _ _ _ _ _ S3 g119 a0 a1 z7 b8 n9 (qr1 _ _ hs_a0) (qr1 _ _ hs_a1) (by omega) ((hg119 a0 9 0 4 (qr1 _ _ hs_a0) (by decide)).trans ((hg111 a0 9 0 4 (qr1 _ _ hs_a0) (by decide)).trans ez7)) ((hg119 a0 9 0 3 (qr1 _ _ hs_a0) (by decide)).trans ((hg111 a0 9 0 3 (qr1 _ _ hs_a0) (by decide)).trans eb8)) hs_b8 (by omega) (by omega)) (qr1 _ _ hs_a0) ⟨by decide, rfl⟩ kd37_2.2.2.2.2.1 rfl rfl (by simp [Value.category]) (by decide) (by omega) (by omega) (by decide) (fun r121 S123 g122 pr121 qr121 hg122 => ?_)
        obtain ⟨rfl, rfl⟩ := pr121
        refine X_st [] rfl ?_
        refine X_iloadn hK (i := 3) 0 kd37_2.2.2.2.2.2.1 rfl rfl ?_
        exact hret _ _ _ _ _ _ _ kd37_2.2.2.2.2.2.2.1 ⟨(xNw2.tr xNw2.rf wr1 (by decide)), z116, rfl, (by omega), (by omega), (by omega), k6⟩ (by omega) (by omega)
      · refine X_iconst hK kd37_1.2.2.2.2.2.2.2.2.1 ?_
        exact hret _ _ _ _ _ _ _ kd37_1.2.2.2.2.2.2.2.2.2.1 ⟨(xNw2.tr xNw2.rf wr1 (by decide)), (-1), rfl, (by omega), (by omega), (by omega), k6⟩ (by omega) (by omega)
    · have h9c11 : 4608 ≤ n9 := by have h8 := fz7; rw [c11] at h8; exact h8
      refine X_aloadn hK (i := 0) 0 kd37_0.2.2.2.2.2.2.2.2.2.2.2 rfl rfl ?_
      refine X_aloadn hK (i := 1) 1 kd37_1.1 rfl rfl ?_
      refine X_callV hK [.ref a1] [] lk_X8_35 (c_findSoonest_9 _ _ _ _ _ S3 g2 a0 a1 z7 b8 n9 (qr1 _ _ hs_a0) (qr1 _ _ hs_a1) (by omega) ez7 eb8 hs_b8 (by omega) (by omega)) (qr1 _ _ hs_a0) ⟨by decide, rfl⟩ kd37_1.2.1 rfl rfl (by simp [Value.category]) (by decide) (by omega) (by omega) (by decide) (fun r124 S126 g125 pr124 qr124 hg125 => ?_)
      obtain ⟨rfl, rfl⟩ := pr124
      refine X_st [] rfl ?_
      refine X_aloadn hK (i := 0) 0 kd37_1.2.2.1 rfl rfl ?_
      refine X_callV hK [] [] lk_X8_39 (c_firstAtEnd_9 _ _ _ _ _ S3 g125 a0 z7 b8 n9 (qr1 _ _ hs_a0) (by omega) ((hg125 a0 9 0 4 (qr1 _ _ hs_a0) (by decide)).trans ez7) ((hg125 a0 9 0 3 (qr1 _ _ hs_a0) (by decide)).trans eb8) hs_b8 (by omega) (by omega)) (qr1 _ _ hs_a0) ⟨by decide, rfl⟩ kd37_1.2.2.2.1 rfl rfl (by simp [Value.category]) (by decide) (by omega) (by omega) (by decide) (fun r127 S129 g128 pr127 qr127 hg128 => ?_)
      obtain ⟨rfl, rfl, z130, rfl, lz130, uz130⟩ := pr127
      refine X_st [.int (iI z130)] rfl ?_
      refine X_istoren hK (i := 3) [(3, .int (iI z130)), (0, .ref a0), (1, .ref a1), (2, .ref a2)] kd37_1.2.2.2.2.1 rfl (by decide) rfl ?_
      refine X_iloadn hK (i := 3) 0 kd37_1.2.2.2.2.2.1 rfl rfl ?_
      refine X_ldc hK (n := 1000000) kd37_1.2.2.2.2.2.2.1 m_53_22 (by decide) ?_
      refine X_icmp_ne hK 37 (by omega) (by omega) kd37_1.2.2.2.2.2.2.2.1 (by decide) (fun c131 => ?_) (fun c131 => ?_)
      · refine X_aloadn hK (i := 0) 1 kd37_1.2.2.2.2.2.2.2.2.2.2.1 rfl rfl ?_
        refine X_aloadn hK (i := 1) 2 kd37_1.2.2.2.2.2.2.2.2.2.2.2 rfl rfl ?_
        refine X_iloadn hK (i := 3) 0 kd37_2.1 rfl rfl ?_
        refine X_callV hK [.ref a1, .int (iI z130)] [] lk_X8_44 (c_dropOthers_9 _ _ _ _ _ S3 g125 a0 a1 z130 z7 b8 n9 (qr1 _ _ hs_a0) (qr1 _ _ hs_a1) (by omega) (by omega) ((hg125 a0 9 0 4 (qr1 _ _ hs_a0) (by decide)).trans ez7) ((hg125 a0 9 0 3 (qr1 _ _ hs_a0) (by decide)).trans eb8) hs_b8 (by omega) (by omega)) (qr1 _ _ hs_a0) ⟨by decide, rfl⟩ kd37_2.2.1 rfl rfl (by simp [Value.category]) (by decide) (by omega) (by omega) (by decide) (fun r132 S134 g133 pr132 qr132 hg133 => ?_)
        obtain ⟨rfl, rfl⟩ := pr132
        refine X_st [] rfl ?_
        refine X_aloadn hK (i := 0) 1 kd37_2.2.2.1 rfl rfl ?_
        refine X_aloadn hK (i := 1) 2 kd37_2.2.2.2.1 rfl rfl ?_
        refine X_callV hK [.ref a1] [] lk_X8_48 (c_walk_9 _ _ _ _ _ S3 g133 a0 a1 z7 b8 n9 (qr1 _ _ hs_a0) (qr1 _ _ hs_a1) (by omega) ((hg133 a0 9 0 4 (qr1 _ _ hs_a0) (by decide)).trans ((hg125 a0 9 0 4 (qr1 _ _ hs_a0) (by decide)).trans ez7)) ((hg133 a0 9 0 3 (qr1 _ _ hs_a0) (by decide)).trans ((hg125 a0 9 0 3 (qr1 _ _ hs_a0) (by decide)).trans eb8)) hs_b8 (by omega) (by omega)) (qr1 _ _ hs_a0) ⟨by decide, rfl⟩ kd37_2.2.2.2.2.1 rfl rfl (by simp [Value.category]) (by decide) (by omega) (by omega) (by decide) (fun r135 S137 g136 pr135 qr135 hg136 => ?_)
        obtain ⟨rfl, rfl⟩ := pr135
        refine X_st [] rfl ?_
        refine X_iloadn hK (i := 3) 0 kd37_2.2.2.2.2.2.1 rfl rfl ?_
        exact hret _ _ _ _ _ _ _ kd37_2.2.2.2.2.2.2.1 ⟨(xNw2.tr xNw2.rf wr1 (by decide)), z130, rfl, (by omega), (by omega), (by omega), k6⟩ (by omega) (by omega)
      · refine X_iconst hK kd37_1.2.2.2.2.2.2.2.2.1 ?_
        exact hret _ _ _ _ _ _ _ kd37_1.2.2.2.2.2.2.2.2.2.1 ⟨(xNw2.tr xNw2.rf wr1 (by decide)), (-1), rfl, (by omega), (by omega), (by omega), k6⟩ (by omega) (by omega)
  · refine X_aloadn hK (i := 0) 0 kd37_0.2.2.2.2.2.2.1 rfl rfl ?_
    refine X_iconst hK kd37_0.2.2.2.2.2.2.2.1 ?_
    refine X_puti hK fl_X8_28_9 (qr1 _ _ hs_a0) (by decide) sl_9_5 (by omega) (by omega) kd37_0.2.2.2.2.2.2.2.2.1 (fun g138 hg138 => ?_)
    refine X_iconst hK kd37_0.2.2.2.2.2.2.2.2.2.1 ?_
    exact hret _ _ _ _ _ _ _ kd37_0.2.2.2.2.2.2.2.2.2.2.1 ⟨(xNw2.tr xNw2.rf wr1 (by decide)), 0, rfl, (by omega), (by omega), (by omega), k6⟩ (by omega) (by omega)
