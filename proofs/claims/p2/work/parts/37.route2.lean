theorem m_1_15 : Cond.initialized RX9 ∈ wsL_law := ch_1 _ (List.mem_of_getElem? (i := 15) rfl)
theorem m_3_14 : Cond.arrayClass .int ∈ wsL_law := ch_3 _ (List.mem_of_getElem? (i := 14) rfl)
theorem m_53_23 : Cond.methodLink RX8 31 yX8_learn ∈ wsL_law := ch_53 _ (List.mem_of_getElem? (i := 23) rfl)
theorem m_54_0 : Cond.instanceMethod yX8_learn ∈ wsL_law := ch_54 _ (List.mem_of_getElem? (i := 0) rfl)
theorem m_54_1 : Cond.selects RX8 yX8_learn yX8_learn ∈ wsL_law := ch_54 _ (List.mem_of_getElem? (i := 1) rfl)
theorem m_54_2 : Cond.code yX8_learn cX8_learn 3 none ∈ wsL_law := ch_54 _ (List.mem_of_getElem? (i := 2) rfl)
theorem m_54_3 : Cond.constant RX8 57 (65535) ∈ wsL_law := ch_54 _ (List.mem_of_getElem? (i := 3) rfl)
theorem m_54_4 : Cond.methodLink RX8 51 yX9_pairAt ∈ wsL_law := ch_54 _ (List.mem_of_getElem? (i := 4) rfl)
theorem m_54_5 : Cond.instanceMethod yX9_pairAt ∈ wsL_law := ch_54 _ (List.mem_of_getElem? (i := 5) rfl)
theorem m_54_6 : Cond.selects RX9 yX9_pairAt yX9_pairAt ∈ wsL_law := ch_54 _ (List.mem_of_getElem? (i := 6) rfl)
theorem m_54_7 : Cond.code yX9_pairAt cX9_pairAt 3 (some .int) ∈ wsL_law := ch_54 _ (List.mem_of_getElem? (i := 7) rfl)
theorem m_54_8 : Cond.methodLink RX8 35 yX8_findSoonest ∈ wsL_law := ch_54 _ (List.mem_of_getElem? (i := 8) rfl)
theorem m_54_9 : Cond.instanceMethod yX8_findSoonest ∈ wsL_law := ch_54 _ (List.mem_of_getElem? (i := 9) rfl)
theorem m_54_10 : Cond.selects RX8 yX8_findSoonest yX8_findSoonest ∈ wsL_law := ch_54 _ (List.mem_of_getElem? (i := 10) rfl)
theorem m_54_11 : Cond.code yX8_findSoonest cX8_findSoonest 4 none ∈ wsL_law := ch_54 _ (List.mem_of_getElem? (i := 11) rfl)
theorem m_54_18 : Cond.methodLink RX8 39 yX8_firstAtEnd ∈ wsL_law := ch_54 _ (List.mem_of_getElem? (i := 18) rfl)
theorem m_54_19 : Cond.instanceMethod yX8_firstAtEnd ∈ wsL_law := ch_54 _ (List.mem_of_getElem? (i := 19) rfl)
theorem m_54_20 : Cond.selects RX8 yX8_firstAtEnd yX8_firstAtEnd ∈ wsL_law := ch_54 _ (List.mem_of_getElem? (i := 20) rfl)
theorem m_54_21 : Cond.code yX8_firstAtEnd cX8_firstAtEnd 4 (some .int) ∈ wsL_law := ch_54 _ (List.mem_of_getElem? (i := 21) rfl)
theorem m_54_22 : Cond.methodLink RX8 44 yX8_dropOthers ∈ wsL_law := ch_54 _ (List.mem_of_getElem? (i := 22) rfl)
theorem m_54_23 : Cond.instanceMethod yX8_dropOthers ∈ wsL_law := ch_54 _ (List.mem_of_getElem? (i := 23) rfl)
theorem m_55_0 : Cond.selects RX8 yX8_dropOthers yX8_dropOthers ∈ wsL_law := ch_55 _ (List.mem_of_getElem? (i := 0) rfl)
theorem m_55_1 : Cond.code yX8_dropOthers cX8_dropOthers 8 none ∈ wsL_law := ch_55 _ (List.mem_of_getElem? (i := 1) rfl)
theorem m_55_6 : Cond.methodLink RX8 48 yX8_walk ∈ wsL_law := ch_55 _ (List.mem_of_getElem? (i := 6) rfl)
theorem m_55_7 : Cond.instanceMethod yX8_walk ∈ wsL_law := ch_55 _ (List.mem_of_getElem? (i := 7) rfl)
theorem m_55_8 : Cond.selects RX8 yX8_walk yX8_walk ∈ wsL_law := ch_55 _ (List.mem_of_getElem? (i := 8) rfl)
theorem m_55_9 : Cond.code yX8_walk cX8_walk 5 none ∈ wsL_law := ch_55 _ (List.mem_of_getElem? (i := 9) rfl)
theorem dX8_drive_0 : decode cX8_drive 0 = .ok (.aload_n 0, 1) := by decide +kernel
theorem dX8_drive_1 : decode cX8_drive 1 = .ok (.aload_n 2, 1) := by decide +kernel
theorem dX8_drive_2 : decode cX8_drive 2 = .ok (.invokevirtual 31, 3) := by decide +kernel
theorem dX8_drive_5 : decode cX8_drive 5 = .ok (.aload_n 0, 1) := by decide +kernel
theorem dX8_drive_6 : decode cX8_drive 6 = .ok (.getfield 24, 3) := by decide +kernel
theorem dX8_drive_9 : decode cX8_drive 9 = .ok (.ifCond .ne 10, 3) := by decide +kernel
theorem dX8_drive_12 : decode cX8_drive 12 = .ok (.aload_n 0, 1) := by decide +kernel
theorem dX8_drive_13 : decode cX8_drive 13 = .ok (.iconst 0, 1) := by decide +kernel
theorem dX8_drive_14 : decode cX8_drive 14 = .ok (.putfield 28, 3) := by decide +kernel
theorem dX8_drive_17 : decode cX8_drive 17 = .ok (.iconst 0, 1) := by decide +kernel
theorem dX8_drive_18 : decode cX8_drive 18 = .ok (.ireturn, 1) := by decide +kernel
theorem dX8_drive_19 : decode cX8_drive 19 = .ok (.aload_n 0, 1) := by decide +kernel
theorem dX8_drive_20 : decode cX8_drive 20 = .ok (.aload_n 1, 1) := by decide +kernel
theorem dX8_drive_21 : decode cX8_drive 21 = .ok (.invokevirtual 35, 3) := by decide +kernel
theorem dX8_drive_24 : decode cX8_drive 24 = .ok (.aload_n 0, 1) := by decide +kernel
theorem dX8_drive_25 : decode cX8_drive 25 = .ok (.invokevirtual 39, 3) := by decide +kernel
theorem dX8_drive_28 : decode cX8_drive 28 = .ok (.istore_n 3, 1) := by decide +kernel
theorem dX8_drive_29 : decode cX8_drive 29 = .ok (.iload_n 3, 1) := by decide +kernel
theorem dX8_drive_30 : decode cX8_drive 30 = .ok (.ldc 43, 2) := by decide +kernel
theorem dX8_drive_32 : decode cX8_drive 32 = .ok (.if_icmp .ne 5, 3) := by decide +kernel
theorem dX8_drive_35 : decode cX8_drive 35 = .ok (.iconst (-1), 1) := by decide +kernel
theorem dX8_drive_36 : decode cX8_drive 36 = .ok (.ireturn, 1) := by decide +kernel
theorem dX8_drive_37 : decode cX8_drive 37 = .ok (.aload_n 0, 1) := by decide +kernel
theorem dX8_drive_38 : decode cX8_drive 38 = .ok (.aload_n 1, 1) := by decide +kernel
theorem dX8_drive_39 : decode cX8_drive 39 = .ok (.iload_n 3, 1) := by decide +kernel
theorem dX8_drive_40 : decode cX8_drive 40 = .ok (.invokevirtual 44, 3) := by decide +kernel
theorem dX8_drive_43 : decode cX8_drive 43 = .ok (.aload_n 0, 1) := by decide +kernel
theorem dX8_drive_44 : decode cX8_drive 44 = .ok (.aload_n 1, 1) := by decide +kernel
theorem dX8_drive_45 : decode cX8_drive 45 = .ok (.invokevirtual 48, 3) := by decide +kernel
theorem dX8_drive_48 : decode cX8_drive 48 = .ok (.iload_n 3, 1) := by decide +kernel
theorem dX8_drive_49 : decode cX8_drive 49 = .ok (.ireturn, 1) := by decide +kernel
theorem dX8_learn_0 : decode cX8_learn 0 = .ok (.aload_n 0, 1) := by decide +kernel
theorem dX8_learn_1 : decode cX8_learn 1 = .ok (.iconst 0, 1) := by decide +kernel
theorem dX8_learn_2 : decode cX8_learn 2 = .ok (.putfield 24, 3) := by decide +kernel
theorem dX8_learn_5 : decode cX8_learn 5 = .ok (.iconst 1, 1) := by decide +kernel
theorem dX8_learn_6 : decode cX8_learn 6 = .ok (.istore_n 2, 1) := by decide +kernel
theorem dX8_learn_7 : decode cX8_learn 7 = .ok (.iload_n 2, 1) := by decide +kernel
theorem dX8_learn_8 : decode cX8_learn 8 = .ok (.bipush 10, 2) := by decide +kernel
theorem dX8_learn_10 : decode cX8_learn 10 = .ok (.if_icmp .ge 53, 3) := by decide +kernel
theorem dX8_learn_13 : decode cX8_learn 13 = .ok (.aload_n 1, 1) := by decide +kernel
theorem dX8_learn_14 : decode cX8_learn 14 = .ok (.iload_n 2, 1) := by decide +kernel
theorem dX8_learn_15 : decode cX8_learn 15 = .ok (.invokevirtual 51, 3) := by decide +kernel
theorem dX8_learn_18 : decode cX8_learn 18 = .ok (.ldc 57, 2) := by decide +kernel
theorem dX8_learn_20 : decode cX8_learn 20 = .ok (.if_icmp .eq 37, 3) := by decide +kernel
theorem dX8_learn_23 : decode cX8_learn 23 = .ok (.aload_n 0, 1) := by decide +kernel
theorem dX8_learn_24 : decode cX8_learn 24 = .ok (.getfield 11, 3) := by decide +kernel
theorem dX8_learn_27 : decode cX8_learn 27 = .ok (.aload_n 0, 1) := by decide +kernel
theorem dX8_learn_28 : decode cX8_learn 28 = .ok (.getfield 24, 3) := by decide +kernel
theorem dX8_learn_31 : decode cX8_learn 31 = .ok (.iload_n 2, 1) := by decide +kernel
theorem dX8_learn_32 : decode cX8_learn 32 = .ok (.iastore, 1) := by decide +kernel
theorem dX8_learn_33 : decode cX8_learn 33 = .ok (.aload_n 0, 1) := by decide +kernel
theorem dX8_learn_34 : decode cX8_learn 34 = .ok (.getfield 15, 3) := by decide +kernel
theorem dX8_learn_37 : decode cX8_learn 37 = .ok (.aload_n 0, 1) := by decide +kernel
theorem dX8_learn_38 : decode cX8_learn 38 = .ok (.getfield 24, 3) := by decide +kernel
theorem dX8_learn_41 : decode cX8_learn 41 = .ok (.aload_n 1, 1) := by decide +kernel
theorem dX8_learn_42 : decode cX8_learn 42 = .ok (.iload_n 2, 1) := by decide +kernel
theorem dX8_learn_43 : decode cX8_learn 43 = .ok (.invokevirtual 51, 3) := by decide +kernel
theorem dX8_learn_46 : decode cX8_learn 46 = .ok (.iastore, 1) := by decide +kernel
theorem dX8_learn_47 : decode cX8_learn 47 = .ok (.aload_n 0, 1) := by decide +kernel
theorem dX8_learn_48 : decode cX8_learn 48 = .ok (.dup, 1) := by decide +kernel
theorem dX8_learn_49 : decode cX8_learn 49 = .ok (.getfield 24, 3) := by decide +kernel
theorem dX8_learn_52 : decode cX8_learn 52 = .ok (.iconst 1, 1) := by decide +kernel
theorem dX8_learn_53 : decode cX8_learn 53 = .ok (.iadd, 1) := by decide +kernel
theorem dX8_learn_54 : decode cX8_learn 54 = .ok (.putfield 24, 3) := by decide +kernel
theorem dX8_learn_57 : decode cX8_learn 57 = .ok (.iinc 2 1, 3) := by decide +kernel
theorem dX8_learn_60 : decode cX8_learn 60 = .ok (.goto (-53), 3) := by decide +kernel
theorem dX8_learn_63 : decode cX8_learn 63 = .ok (.iconst 1, 1) := by decide +kernel
theorem dX8_learn_64 : decode cX8_learn 64 = .ok (.aload_n 0, 1) := by decide +kernel
theorem dX8_learn_65 : decode cX8_learn 65 = .ok (.getfield 24, 3) := by decide +kernel
theorem dX8_learn_68 : decode cX8_learn 68 = .ok (.ishl, 1) := by decide +kernel
theorem dX8_learn_69 : decode cX8_learn 69 = .ok (.bipush 9, 2) := by decide +kernel
theorem dX8_learn_71 : decode cX8_learn 71 = .ok (.imul, 1) := by decide +kernel
theorem dX8_learn_72 : decode cX8_learn 72 = .ok (.istore_n 2, 1) := by decide +kernel
theorem dX8_learn_73 : decode cX8_learn 73 = .ok (.aload_n 0, 1) := by decide +kernel
theorem dX8_learn_74 : decode cX8_learn 74 = .ok (.getfield 21, 3) := by decide +kernel
theorem dX8_learn_77 : decode cX8_learn 77 = .ok (.arraylength, 1) := by decide +kernel
theorem dX8_learn_78 : decode cX8_learn 78 = .ok (.iload_n 2, 1) := by decide +kernel
theorem dX8_learn_79 : decode cX8_learn 79 = .ok (.if_icmp .ge 10, 3) := by decide +kernel
theorem dX8_learn_82 : decode cX8_learn 82 = .ok (.aload_n 0, 1) := by decide +kernel
theorem dX8_learn_83 : decode cX8_learn 83 = .ok (.iload_n 2, 1) := by decide +kernel
theorem dX8_learn_84 : decode cX8_learn 84 = .ok (.newarray .int, 2) := by decide +kernel
theorem dX8_learn_86 : decode cX8_learn 86 = .ok (.putfield 21, 3) := by decide +kernel
theorem dX8_learn_89 : decode cX8_learn 89 = .ok (.return_, 1) := by decide +kernel
theorem lk_X8_31 : xLV RX8 31 yX8_learn cX8_learn 3 none 1 := ⟨m_53_23, m_54_0, m_54_1, m_2_22, m_54_2, by decide +kernel⟩
theorem lk_X8_35 : xLV RX8 35 yX8_findSoonest cX8_findSoonest 4 none 1 := ⟨m_54_8, m_54_9, m_54_10, m_2_22, m_54_11, by decide +kernel⟩
theorem lk_X8_39 : xLV RX8 39 yX8_firstAtEnd cX8_firstAtEnd 4 (some .int) 0 := ⟨m_54_18, m_54_19, m_54_20, m_2_22, m_54_21, by decide +kernel⟩
theorem lk_X8_44 : xLV RX8 44 yX8_dropOthers cX8_dropOthers 8 none 2 := ⟨m_54_22, m_54_23, m_55_0, m_2_22, m_55_1, by decide +kernel⟩
theorem lk_X8_48 : xLV RX8 48 yX8_walk cX8_walk 5 none 1 := ⟨m_55_6, m_55_7, m_55_8, m_2_22, m_55_9, by decide +kernel⟩
theorem lk_X8_51 : xLV RX8 51 yX9_pairAt cX9_pairAt 3 (some .int) 1 := ⟨m_54_4, m_54_5, m_54_6, m_1_15, m_54_7, by decide +kernel⟩
def xSn (S : xT) : Prop := ∀ b m, S b = some (13400, m) → m ≤ 4608
theorem xst9 {z n : Int} {m : Nat} (p : z = ((2 ^ n.toNat : Nat) : Int)) (h : z * 9 ≤ m) : 9 * 2 ^ n.toNat ≤ m := by
  generalize 2 ^ n.toNat = q at p ⊢
  omega
set_option maxHeartbeats 4000000 in
set_option maxRecDepth 100000 in
theorem c_X8_learn (l : Launch) (D : va_G) (kA : Nat → ClassId) (b0 : Nat) (t0 : Nat → Nat) (S : xT) (g : xG) (a0 : Nat) (a1 : Nat) (hs_a0 : S a0 = some (9, 0)) (hs_a1 : S a1 = some (10, 0)) (hp0 : xSn S) : xMu l yX8_learn cX8_learn 3 none 1 1 4608 22 D kA b0 t0 [(9, 4), (13100, 0), (13200, 0), (9, 3)] [.ref a0, .ref a1] S g (fun (r : Option Value) (S1 : xT) (g1 : xG) (dc ds : Nat) => xNw2 S S1 [13400] ∧ r = none ∧ (∃ (n : Int) (b m : Nat), g1 a0 4 = .int (iI n) ∧ 0 ≤ n ∧ n ≤ 9 ∧ g1 a0 3 = .ref b ∧ S1 b = some (13400, m) ∧ 9 * 2 ^ n.toNat ≤ m ∧ m ≤ 4608) ∧ (dc ≤ 1 ∧ ds ≤ 4608)) := by
  refine xEnterUV (by decide) (by simp [lg_sl, Value.category]) [(0, .ref a0), (1, .ref a1)] rfl ?_
  intro K E hK hret hS0 _ hini ht
  subst ht
  refine X_aloadn hK (i := 0) 0 dX8_learn_0 rfl rfl ?_
  refine X_iconst hK dX8_learn_1 ?_
  refine X_puti hK fl_X8_24_9 hs_a0 (by decide) sl_9_4 (by omega) (by omega) dX8_learn_2 (fun g1 hg1 => ?_)
  refine X_iconst hK dX8_learn_5 ?_
  refine X_istoren hK (i := 2) [(2, .int (iI 1)), (0, .ref a0), (1, .ref a1)] dX8_learn_6 rfl (by decide) rfl ?_
  have P144 : ∀ (nP144 : Nat) (g120 : xG) (_ : xM [(9, 4), (13200, 0), (13100, 0)] S g1 g120) (z119 : Int) (_ : 1 ≤ z119) (_ : z119 ≤ 10) (q121 : Int) (_ : 0 ≤ q121) (_ : q121 ≤ 9) (_ : g120 a0 4 = .int (iI q121)) (_ : q121 ≤ z119 - 1) (_ : 26 - z119 < (nP144 : Int)), X K E 7 [(2, .int (iI z119)), (0, .ref a0), (1, .ref a1)] [] S g120 0 0 := by
    intro nP144
    induction nP144 with
    | zero => intro g120 hg120 z119 lz119 uz119 q121 lq121 uq121 eq121 v145 mP144; exact False.elim (by omega)
    | succ nP144 ihP144 =>
      intro g120 hg120 z119 lz119 uz119 q121 lq121 uq121 eq121 v145 mP144
      refine X_iloadn hK (i := 2) 0 dX8_learn_7 rfl rfl ?_
      refine X_bipush hK dX8_learn_8 (by decide) ?_
      refine X_icmp_ge hK 63 (by omega) (by omega) dX8_learn_10 (by decide) (fun c146 => ?_) (fun c146 => ?_)
      · refine X_iconst hK dX8_learn_63 ?_
        refine X_aloadn hK (i := 0) 1 dX8_learn_64 rfl rfl ?_
        refine X_getK hK fl_X8_24_9 hs_a0 eq121 dX8_learn_65 ?_
        refine X_ishl hK dX8_learn_68 (fun z147 ez147 lz147 uz147 => ?_)
        have bz147 := xshlB 9 ez147 ⟨lz147, uz147⟩ (by omega) (by decide)
        have pz147 := xshl1 ez147 ⟨lz147, uz147⟩ (by omega)
        refine X_bipush hK dX8_learn_69 (by decide) ?_
        refine X_imul hK dX8_learn_71 ?_
        refine X_istoren hK (i := 2) [(2, .int (iI (z147 * 9))), (0, .ref a0), (1, .ref a1)] dX8_learn_72 rfl (by decide) rfl ?_
        refine X_aloadn hK (i := 0) 1 dX8_learn_73 rfl rfl ?_
        refine X_getw hK 13400 fl_X8_21_9 hs_a0 sl_9_3 dX8_learn_74 (fun b148 nb148 eb148 hs_b148 => ?_)
        have vb148 := hp0 _ _ hs_b148
        refine X_alen hK (i := 0) (ty := .int) hs_b148 (by decide) (by decide) (fun _ => rfl) dX8_learn_77 ?_
        refine X_iloadn hK (i := 2) 0 dX8_learn_78 rfl rfl ?_
        refine X_icmp_ge hK 89 (by omega) (by omega) dX8_learn_79 (by decide) (fun c149 => ?_) (fun c149 => ?_)
        · exact hret _ _ _ _ _ _ dX8_learn_89 ⟨xNw2.rf, rfl, ⟨q121, b148, nb148, eq121, (by omega), (by omega), eb148, hs_b148, xst9 pz147 (by omega), (hp0 _ _ hs_b148)⟩, (by omega)⟩ (by omega) (by omega)
        · refine X_aloadn hK (i := 0) 1 dX8_learn_82 rfl rfl ?_
          refine X_iloadn hK (i := 2) 0 dX8_learn_83 rfl rfl ?_
          refine X_newa hK (ty := .int) 13400 0 (.int 0) rfl (fun _ => rfl) rfl (by decide) m_3_14 (by omega) ⟨by show _ * 4 ≤ _; omega, by omega⟩ (by omega) (by omega) (fun _ _ h9 => h9) (fun S9 k9 => by rw [sl_13400]; exact ⟨0, rfl, by decide, by decide⟩) dX8_learn_84 (fun b150 S151 g152 zb150 nb150 hSb150 hg152 qb150 hs_b150 => ?_)
          refine X_putw hK 13400 fl_X8_21_9 (qb150 _ _ hs_a0) (by decide) sl_9_3 hs_b150 dX8_learn_86 (fun g153 hg153 => ?_)
          exact hret _ _ _ _ _ _ dX8_learn_89 ⟨(xNw2.tr xNw2.rf (hSb150 ▸ xNw2.set (by decide)) (fun _ h => h)), rfl, ⟨q121, b150, ((z147 * 9) : Int).toNat, ((xs_k hg153 (by decide)).trans ((xs_n hg152 hs_a0 nb150).trans eq121)), (by omega), (by omega), (xs_s hg153), hs_b150, xst9 pz147 (by omega), (by omega)⟩, (by omega)⟩ (by omega) (by omega)
      · refine X_aloadn hK (i := 1) 2 dX8_learn_13 rfl rfl ?_
        refine X_iloadn hK (i := 2) 0 dX8_learn_14 rfl rfl ?_
        refine X_callV hK [.int (iI z119)] [] lk_X8_51 (c_X9_pairAt _ _ _ _ _ S g120 a1 z119 hs_a1 (by omega)) hs_a1 ⟨by decide, rfl⟩ dX8_learn_15 rfl rfl (by simp [Value.category]) (by decide) (by omega) (by omega) (by decide) (fun r154 S156 g155 pr154 qr154 hg155 => ?_)
        obtain ⟨rfl, rfl, z157, rfl, lz157, uz157⟩ := pr154
        refine X_st [.int (iI z157)] rfl ?_
        refine X_ldc hK (n := 65535) dX8_learn_18 m_54_3 (by decide) ?_
        refine X_icmp_eq hK 57 (by omega) (by omega) dX8_learn_20 (by decide) (fun c158 => ?_) (fun c158 => ?_)
        · refine X_iinc hK (i := 2) (z := z119) (n := 1) 0 [(2, .int (iI (z119 + 1))), (0, .ref a0), (1, .ref a1)] dX8_learn_57 rfl (by decide) rfl ?_
          refine X_goto hK 7 dX8_learn_60 (by decide) ?_
          exact ihP144  g120 (xM.tr xM.rf xLe.rf hg120 (by decide)) (z119 + 1) (by omega) (by omega) q121 (by omega) (by omega) eq121 (by omega) (by omega)
        · refine X_aloadn hK (i := 0) 1 dX8_learn_23 rfl rfl ?_
          refine X_getr hK 13100 9 fl_X8_11_9 hs_a0 sl_9_0 dX8_learn_24 (fun b159 eb159 hs_b159 => ?_)
          refine X_aloadn hK (i := 0) 1 dX8_learn_27 rfl rfl ?_
          refine X_getK hK fl_X8_24_9 hs_a0 eq121 dX8_learn_28 ?_
          refine X_iloadn hK (i := 2) 0 dX8_learn_31 rfl rfl ?_
          refine X_iast hK hs_b159 (by decide) (by decide) sl_13100 (by omega) (by omega) (by omega) (by omega) dX8_learn_32 (fun g160 hg160 => ?_)
          refine X_aloadn hK (i := 0) 1 dX8_learn_33 rfl rfl ?_
          refine X_getr hK 13200 9 fl_X8_15_9 hs_a0 sl_9_1 dX8_learn_34 (fun b161 eb161 hs_b161 => ?_)
          refine X_aloadn hK (i := 0) 1 dX8_learn_37 rfl rfl ?_
          refine X_getK hK fl_X8_24_9 hs_a0 ((xs_a hg160 (xne hs_a0 hs_b159 (by decide))).trans eq121) dX8_learn_38 ?_
          refine X_aloadn hK (i := 1) 2 dX8_learn_41 rfl rfl ?_
          refine X_iloadn hK (i := 2) 0 dX8_learn_42 rfl rfl ?_
          refine X_callV hK [.int (iI z119)] [.int (iI q121), .ref b161] lk_X8_51 (c_X9_pairAt _ _ _ _ _ S g160 a1 z119 hs_a1 (by omega)) hs_a1 ⟨by decide, rfl⟩ dX8_learn_43 rfl rfl (by simp [Value.category]) (by decide) (by omega) (by omega) (by decide) (fun r162 S164 g163 pr162 qr162 hg163 => ?_)
          obtain ⟨rfl, rfl, z165, rfl, lz165, uz165⟩ := pr162
          refine X_st [.int (iI z165), .int (iI q121), .ref b161] rfl ?_
          refine X_iast hK hs_b161 (by decide) (by decide) sl_13200 (by omega) (by omega) (by omega) (by omega) dX8_learn_46 (fun g166 hg166 => ?_)
          refine X_aloadn hK (i := 0) 1 dX8_learn_47 rfl rfl ?_
          refine X_dup hK dX8_learn_48 rfl ?_
          refine X_getK hK fl_X8_24_9 hs_a0 ((xs_a hg166 (xne hs_a0 hs_b161 (by decide))).trans ((xs_a hg160 (xne hs_a0 hs_b159 (by decide))).trans eq121)) dX8_learn_49 ?_
          refine X_iconst hK dX8_learn_52 ?_
          refine X_iadd hK dX8_learn_53 ?_
          refine X_puti hK fl_X8_24_9 hs_a0 (by decide) sl_9_4 (by omega) (by omega) dX8_learn_54 (fun g167 hg167 => ?_)
          refine X_iinc hK (i := 2) (z := z119) (n := 1) 0 [(2, .int (iI (z119 + 1))), (0, .ref a0), (1, .ref a1)] dX8_learn_57 rfl (by decide) rfl ?_
          refine X_goto hK 7 dX8_learn_60 (by decide) ?_
          exact ihP144  g167 (xM_up (xM_ua (xM_ua (xM.tr xM.rf xLe.rf hg120 (by decide)) hg160 hs_b159 (by decide) (by decide)) hg166 hs_b161 (by decide) (by decide)) hg167 hs_a0 (by decide) (by decide)) (z119 + 1) (by omega) (by omega) (q121 + 1) (by omega) (by omega) (xs_s hg167) (by omega) (by omega)
  exact P144 ((26 - 1 : Int).toNat + 1) g1 xM.rf 1 (by omega) (by omega) 0 (by omega) (by omega) (xs_s hg1) (by omega) (by omega)

set_option maxHeartbeats 4000000 in
set_option maxRecDepth 100000 in
theorem c_X8_drive (l : Launch) (D : va_G) (kA : Nat → ClassId) (b0 : Nat) (t0 : Nat → Nat) (S : xT) (g : xG) (a0 : Nat) (a1 : Nat) (a2 : Nat) (hs_a0 : S a0 = some (9, 0)) (hs_a1 : S a1 = some (4, 0)) (hs_a2 : S a2 = some (10, 0)) (hp0 : xSn S) : xMu l yX8_drive cX8_drive 4 (some .int) 3 1 4608 63 D kA b0 t0 [(9, 4), (13100, 0), (13200, 0), (9, 3), (13400, 0), (9, 5), (13300, 0)] [.ref a0, .ref a1, .ref a2] S g (fun (r : Option Value) (S1 : xT) (g1 : xG) (dc ds : Nat) => xNw2 S S1 [13400] ∧ ∃ z : Int, r = some (.int (iI z)) ∧ (-2147483648) ≤ z ∧ z ≤ 999999 ∧ (dc ≤ 1 ∧ ds ≤ 4608)) := by
  refine xEnterUI (by decide) (by simp [lg_sl, Value.category]) [(0, .ref a0), (1, .ref a1), (2, .ref a2)] rfl ?_
  intro K E hK hret hS0 _ hini ht
  subst ht
  refine X_aloadn hK (i := 0) 0 dX8_drive_0 rfl rfl ?_
  refine X_aloadn hK (i := 2) 2 dX8_drive_1 rfl rfl ?_
  refine X_callVU hK [.ref a2] [] lk_X8_31 (c_X8_learn _ _ _ _ _ S g a0 a2 hs_a0 hs_a2 hp0) hs_a0 ⟨by decide, rfl⟩ dX8_drive_2 rfl rfl (by simp [Value.category]) (by decide) (by omega) (by omega) (by decide) (fun r1 S3 g2 dcr1 dsr1 pr1 qr1 hg2 => ?_)
  obtain ⟨wr1, rfl, k4, k5⟩ := pr1
  refine X_st [] rfl ?_
  obtain ⟨z6, b7, n8, ez6, lz6, uz6, eb7, hs_b7, fz6, vz6⟩ := k4
  refine X_aloadn hK (i := 0) 0 dX8_drive_5 rfl rfl ?_
  refine X_getK hK fl_X8_24_9 (qr1 _ _ hs_a0) ez6 dX8_drive_6 ?_
  refine X_if_ne hK 19 (by omega) dX8_drive_9 (by decide) (fun c9 => ?_) (fun c9 => ?_)
  · rcases (show z6 = 1 ∨ z6 = 2 ∨ z6 = 3 ∨ z6 = 4 ∨ z6 = 5 ∨ z6 = 6 ∨ z6 = 7 ∨ z6 = 8 ∨ z6 = 9 by omega) with c10 | c10 | c10 | c10 | c10 | c10 | c10 | c10 | c10
    · have h9c10 : 18 ≤ n8 := by have h8 := fz6; rw [c10] at h8; exact h8
      refine X_aloadn hK (i := 0) 0 dX8_drive_19 rfl rfl ?_
      refine X_aloadn hK (i := 1) 1 dX8_drive_20 rfl rfl ?_
      refine X_callV hK [.ref a1] [] lk_X8_35 (c_findSoonest_1 _ _ _ _ _ S3 g2 a0 a1 z6 b7 n8 (qr1 _ _ hs_a0) (qr1 _ _ hs_a1) (by omega) ez6 eb7 hs_b7 (by omega) (by omega)) (qr1 _ _ hs_a0) ⟨by decide, rfl⟩ dX8_drive_21 rfl rfl (by simp [Value.category]) (by decide) (by omega) (by omega) (by decide) (fun r11 S13 g12 pr11 qr11 hg12 => ?_)
      obtain ⟨rfl, rfl⟩ := pr11
      refine X_st [] rfl ?_
      refine X_aloadn hK (i := 0) 0 dX8_drive_24 rfl rfl ?_
      refine X_callV hK [] [] lk_X8_39 (c_firstAtEnd_1 _ _ _ _ _ S3 g12 a0 z6 b7 n8 (qr1 _ _ hs_a0) (by omega) ((hg12 a0 9 0 4 (qr1 _ _ hs_a0) (by decide)).trans ez6) ((hg12 a0 9 0 3 (qr1 _ _ hs_a0) (by decide)).trans eb7) hs_b7 (by omega) (by omega)) (qr1 _ _ hs_a0) ⟨by decide, rfl⟩ dX8_drive_25 rfl rfl (by simp [Value.category]) (by decide) (by omega) (by omega) (by decide) (fun r14 S16 g15 pr14 qr14 hg15 => ?_)
      obtain ⟨rfl, rfl, z17, rfl, lz17, uz17⟩ := pr14
      refine X_st [.int (iI z17)] rfl ?_
      refine X_istoren hK (i := 3) [(3, .int (iI z17)), (0, .ref a0), (1, .ref a1), (2, .ref a2)] dX8_drive_28 rfl (by decide) rfl ?_
      refine X_iloadn hK (i := 3) 0 dX8_drive_29 rfl rfl ?_
      refine X_ldc hK (n := 1000000) dX8_drive_30 m_53_22 (by decide) ?_
      refine X_icmp_ne hK 37 (by omega) (by omega) dX8_drive_32 (by decide) (fun c18 => ?_) (fun c18 => ?_)
      · refine X_aloadn hK (i := 0) 1 dX8_drive_37 rfl rfl ?_
        refine X_aloadn hK (i := 1) 2 dX8_drive_38 rfl rfl ?_
        refine X_iloadn hK (i := 3) 0 dX8_drive_39 rfl rfl ?_
        refine X_callV hK [.ref a1, .int (iI z17)] [] lk_X8_44 (c_dropOthers_1 _ _ _ _ _ S3 g12 a0 a1 z17 z6 b7 n8 (qr1 _ _ hs_a0) (qr1 _ _ hs_a1) (by omega) (by omega) ((hg12 a0 9 0 4 (qr1 _ _ hs_a0) (by decide)).trans ez6) ((hg12 a0 9 0 3 (qr1 _ _ hs_a0) (by decide)).trans eb7) hs_b7 (by omega) (by omega)) (qr1 _ _ hs_a0) ⟨by decide, rfl⟩ dX8_drive_40 rfl rfl (by simp [Value.category]) (by decide) (by omega) (by omega) (by decide) (fun r19 S21 g20 pr19 qr19 hg20 => ?_)
        obtain ⟨rfl, rfl⟩ := pr19
        refine X_st [] rfl ?_
        refine X_aloadn hK (i := 0) 1 dX8_drive_43 rfl rfl ?_
        refine X_aloadn hK (i := 1) 2 dX8_drive_44 rfl rfl ?_
        refine X_callV hK [.ref a1] [] lk_X8_48 (c_walk_1 _ _ _ _ _ S3 g20 a0 a1 z6 b7 n8 (qr1 _ _ hs_a0) (qr1 _ _ hs_a1) (by omega) ((hg20 a0 9 0 4 (qr1 _ _ hs_a0) (by decide)).trans ((hg12 a0 9 0 4 (qr1 _ _ hs_a0) (by decide)).trans ez6)) ((hg20 a0 9 0 3 (qr1 _ _ hs_a0) (by decide)).trans ((hg12 a0 9 0 3 (qr1 _ _ hs_a0) (by decide)).trans eb7)) hs_b7 (by omega) (by omega)) (qr1 _ _ hs_a0) ⟨by decide, rfl⟩ dX8_drive_45 rfl rfl (by simp [Value.category]) (by decide) (by omega) (by omega) (by decide) (fun r22 S24 g23 pr22 qr22 hg23 => ?_)
        obtain ⟨rfl, rfl⟩ := pr22
        refine X_st [] rfl ?_
        refine X_iloadn hK (i := 3) 0 dX8_drive_48 rfl rfl ?_
        exact hret _ _ _ _ _ _ _ dX8_drive_49 ⟨(xNw2.tr xNw2.rf wr1 (by decide)), z17, rfl, (by omega), (by omega), (by omega)⟩ (by omega) (by omega)
      · refine X_iconst hK dX8_drive_35 ?_
        exact hret _ _ _ _ _ _ _ dX8_drive_36 ⟨(xNw2.tr xNw2.rf wr1 (by decide)), (-1), rfl, (by omega), (by omega), (by omega)⟩ (by omega) (by omega)
    · have h9c10 : 36 ≤ n8 := by have h8 := fz6; rw [c10] at h8; exact h8
      refine X_aloadn hK (i := 0) 0 dX8_drive_19 rfl rfl ?_
      refine X_aloadn hK (i := 1) 1 dX8_drive_20 rfl rfl ?_
      refine X_callV hK [.ref a1] [] lk_X8_35 (c_findSoonest_2 _ _ _ _ _ S3 g2 a0 a1 z6 b7 n8 (qr1 _ _ hs_a0) (qr1 _ _ hs_a1) (by omega) ez6 eb7 hs_b7 (by omega) (by omega)) (qr1 _ _ hs_a0) ⟨by decide, rfl⟩ dX8_drive_21 rfl rfl (by simp [Value.category]) (by decide) (by omega) (by omega) (by decide) (fun r25 S27 g26 pr25 qr25 hg26 => ?_)
      obtain ⟨rfl, rfl⟩ := pr25
      refine X_st [] rfl ?_
      refine X_aloadn hK (i := 0) 0 dX8_drive_24 rfl rfl ?_
      refine X_callV hK [] [] lk_X8_39 (c_firstAtEnd_2 _ _ _ _ _ S3 g26 a0 z6 b7 n8 (qr1 _ _ hs_a0) (by omega) ((hg26 a0 9 0 4 (qr1 _ _ hs_a0) (by decide)).trans ez6) ((hg26 a0 9 0 3 (qr1 _ _ hs_a0) (by decide)).trans eb7) hs_b7 (by omega) (by omega)) (qr1 _ _ hs_a0) ⟨by decide, rfl⟩ dX8_drive_25 rfl rfl (by simp [Value.category]) (by decide) (by omega) (by omega) (by decide) (fun r28 S30 g29 pr28 qr28 hg29 => ?_)
      obtain ⟨rfl, rfl, z31, rfl, lz31, uz31⟩ := pr28
      refine X_st [.int (iI z31)] rfl ?_
      refine X_istoren hK (i := 3) [(3, .int (iI z31)), (0, .ref a0), (1, .ref a1), (2, .ref a2)] dX8_drive_28 rfl (by decide) rfl ?_
      refine X_iloadn hK (i := 3) 0 dX8_drive_29 rfl rfl ?_
      refine X_ldc hK (n := 1000000) dX8_drive_30 m_53_22 (by decide) ?_
      refine X_icmp_ne hK 37 (by omega) (by omega) dX8_drive_32 (by decide) (fun c32 => ?_) (fun c32 => ?_)
      · refine X_aloadn hK (i := 0) 1 dX8_drive_37 rfl rfl ?_
        refine X_aloadn hK (i := 1) 2 dX8_drive_38 rfl rfl ?_
        refine X_iloadn hK (i := 3) 0 dX8_drive_39 rfl rfl ?_
        refine X_callV hK [.ref a1, .int (iI z31)] [] lk_X8_44 (c_dropOthers_2 _ _ _ _ _ S3 g26 a0 a1 z31 z6 b7 n8 (qr1 _ _ hs_a0) (qr1 _ _ hs_a1) (by omega) (by omega) ((hg26 a0 9 0 4 (qr1 _ _ hs_a0) (by decide)).trans ez6) ((hg26 a0 9 0 3 (qr1 _ _ hs_a0) (by decide)).trans eb7) hs_b7 (by omega) (by omega)) (qr1 _ _ hs_a0) ⟨by decide, rfl⟩ dX8_drive_40 rfl rfl (by simp [Value.category]) (by decide) (by omega) (by omega) (by decide) (fun r33 S35 g34 pr33 qr33 hg34 => ?_)
        obtain ⟨rfl, rfl⟩ := pr33
        refine X_st [] rfl ?_
        refine X_aloadn hK (i := 0) 1 dX8_drive_43 rfl rfl ?_
        refine X_aloadn hK (i := 1) 2 dX8_drive_44 rfl rfl ?_
        refine X_callV hK [.ref a1] [] lk_X8_48 (c_walk_2 _ _ _ _ _ S3 g34 a0 a1 z6 b7 n8 (qr1 _ _ hs_a0) (qr1 _ _ hs_a1) (by omega) ((hg34 a0 9 0 4 (qr1 _ _ hs_a0) (by decide)).trans ((hg26 a0 9 0 4 (qr1 _ _ hs_a0) (by decide)).trans ez6)) ((hg34 a0 9 0 3 (qr1 _ _ hs_a0) (by decide)).trans ((hg26 a0 9 0 3 (qr1 _ _ hs_a0) (by decide)).trans eb7)) hs_b7 (by omega) (by omega)) (qr1 _ _ hs_a0) ⟨by decide, rfl⟩ dX8_drive_45 rfl rfl (by simp [Value.category]) (by decide) (by omega) (by omega) (by decide) (fun r36 S38 g37 pr36 qr36 hg37 => ?_)
        obtain ⟨rfl, rfl⟩ := pr36
        refine X_st [] rfl ?_
        refine X_iloadn hK (i := 3) 0 dX8_drive_48 rfl rfl ?_
        exact hret _ _ _ _ _ _ _ dX8_drive_49 ⟨(xNw2.tr xNw2.rf wr1 (by decide)), z31, rfl, (by omega), (by omega), (by omega)⟩ (by omega) (by omega)
      · refine X_iconst hK dX8_drive_35 ?_
        exact hret _ _ _ _ _ _ _ dX8_drive_36 ⟨(xNw2.tr xNw2.rf wr1 (by decide)), (-1), rfl, (by omega), (by omega), (by omega)⟩ (by omega) (by omega)
    · have h9c10 : 72 ≤ n8 := by have h8 := fz6; rw [c10] at h8; exact h8
      refine X_aloadn hK (i := 0) 0 dX8_drive_19 rfl rfl ?_
      refine X_aloadn hK (i := 1) 1 dX8_drive_20 rfl rfl ?_
      refine X_callV hK [.ref a1] [] lk_X8_35 (c_findSoonest_3 _ _ _ _ _ S3 g2 a0 a1 z6 b7 n8 (qr1 _ _ hs_a0) (qr1 _ _ hs_a1) (by omega) ez6 eb7 hs_b7 (by omega) (by omega)) (qr1 _ _ hs_a0) ⟨by decide, rfl⟩ dX8_drive_21 rfl rfl (by simp [Value.category]) (by decide) (by omega) (by omega) (by decide) (fun r39 S41 g40 pr39 qr39 hg40 => ?_)
      obtain ⟨rfl, rfl⟩ := pr39
      refine X_st [] rfl ?_
      refine X_aloadn hK (i := 0) 0 dX8_drive_24 rfl rfl ?_
      refine X_callV hK [] [] lk_X8_39 (c_firstAtEnd_3 _ _ _ _ _ S3 g40 a0 z6 b7 n8 (qr1 _ _ hs_a0) (by omega) ((hg40 a0 9 0 4 (qr1 _ _ hs_a0) (by decide)).trans ez6) ((hg40 a0 9 0 3 (qr1 _ _ hs_a0) (by decide)).trans eb7) hs_b7 (by omega) (by omega)) (qr1 _ _ hs_a0) ⟨by decide, rfl⟩ dX8_drive_25 rfl rfl (by simp [Value.category]) (by decide) (by omega) (by omega) (by decide) (fun r42 S44 g43 pr42 qr42 hg43 => ?_)
      obtain ⟨rfl, rfl, z45, rfl, lz45, uz45⟩ := pr42
      refine X_st [.int (iI z45)] rfl ?_
      refine X_istoren hK (i := 3) [(3, .int (iI z45)), (0, .ref a0), (1, .ref a1), (2, .ref a2)] dX8_drive_28 rfl (by decide) rfl ?_
      refine X_iloadn hK (i := 3) 0 dX8_drive_29 rfl rfl ?_
      refine X_ldc hK (n := 1000000) dX8_drive_30 m_53_22 (by decide) ?_
      refine X_icmp_ne hK 37 (by omega) (by omega) dX8_drive_32 (by decide) (fun c46 => ?_) (fun c46 => ?_)
      · refine X_aloadn hK (i := 0) 1 dX8_drive_37 rfl rfl ?_
        refine X_aloadn hK (i := 1) 2 dX8_drive_38 rfl rfl ?_
        refine X_iloadn hK (i := 3) 0 dX8_drive_39 rfl rfl ?_
        refine X_callV hK [.ref a1, .int (iI z45)] [] lk_X8_44 (c_dropOthers_3 _ _ _ _ _ S3 g40 a0 a1 z45 z6 b7 n8 (qr1 _ _ hs_a0) (qr1 _ _ hs_a1) (by omega) (by omega) ((hg40 a0 9 0 4 (qr1 _ _ hs_a0) (by decide)).trans ez6) ((hg40 a0 9 0 3 (qr1 _ _ hs_a0) (by decide)).trans eb7) hs_b7 (by omega) (by omega)) (qr1 _ _ hs_a0) ⟨by decide, rfl⟩ dX8_drive_40 rfl rfl (by simp [Value.category]) (by decide) (by omega) (by omega) (by decide) (fun r47 S49 g48 pr47 qr47 hg48 => ?_)
        obtain ⟨rfl, rfl⟩ := pr47
        refine X_st [] rfl ?_
        refine X_aloadn hK (i := 0) 1 dX8_drive_43 rfl rfl ?_
        refine X_aloadn hK (i := 1) 2 dX8_drive_44 rfl rfl ?_
        refine X_callV hK [.ref a1] [] lk_X8_48 (c_walk_3 _ _ _ _ _ S3 g48 a0 a1 z6 b7 n8 (qr1 _ _ hs_a0) (qr1 _ _ hs_a1) (by omega) ((hg48 a0 9 0 4 (qr1 _ _ hs_a0) (by decide)).trans ((hg40 a0 9 0 4 (qr1 _ _ hs_a0) (by decide)).trans ez6)) ((hg48 a0 9 0 3 (qr1 _ _ hs_a0) (by decide)).trans ((hg40 a0 9 0 3 (qr1 _ _ hs_a0) (by decide)).trans eb7)) hs_b7 (by omega) (by omega)) (qr1 _ _ hs_a0) ⟨by decide, rfl⟩ dX8_drive_45 rfl rfl (by simp [Value.category]) (by decide) (by omega) (by omega) (by decide) (fun r50 S52 g51 pr50 qr50 hg51 => ?_)
        obtain ⟨rfl, rfl⟩ := pr50
        refine X_st [] rfl ?_
        refine X_iloadn hK (i := 3) 0 dX8_drive_48 rfl rfl ?_
        exact hret _ _ _ _ _ _ _ dX8_drive_49 ⟨(xNw2.tr xNw2.rf wr1 (by decide)), z45, rfl, (by omega), (by omega), (by omega)⟩ (by omega) (by omega)
      · refine X_iconst hK dX8_drive_35 ?_
        exact hret _ _ _ _ _ _ _ dX8_drive_36 ⟨(xNw2.tr xNw2.rf wr1 (by decide)), (-1), rfl, (by omega), (by omega), (by omega)⟩ (by omega) (by omega)
    · have h9c10 : 144 ≤ n8 := by have h8 := fz6; rw [c10] at h8; exact h8
      refine X_aloadn hK (i := 0) 0 dX8_drive_19 rfl rfl ?_
      refine X_aloadn hK (i := 1) 1 dX8_drive_20 rfl rfl ?_
      refine X_callV hK [.ref a1] [] lk_X8_35 (c_findSoonest_4 _ _ _ _ _ S3 g2 a0 a1 z6 b7 n8 (qr1 _ _ hs_a0) (qr1 _ _ hs_a1) (by omega) ez6 eb7 hs_b7 (by omega) (by omega)) (qr1 _ _ hs_a0) ⟨by decide, rfl⟩ dX8_drive_21 rfl rfl (by simp [Value.category]) (by decide) (by omega) (by omega) (by decide) (fun r53 S55 g54 pr53 qr53 hg54 => ?_)
      obtain ⟨rfl, rfl⟩ := pr53
      refine X_st [] rfl ?_
      refine X_aloadn hK (i := 0) 0 dX8_drive_24 rfl rfl ?_
      refine X_callV hK [] [] lk_X8_39 (c_firstAtEnd_4 _ _ _ _ _ S3 g54 a0 z6 b7 n8 (qr1 _ _ hs_a0) (by omega) ((hg54 a0 9 0 4 (qr1 _ _ hs_a0) (by decide)).trans ez6) ((hg54 a0 9 0 3 (qr1 _ _ hs_a0) (by decide)).trans eb7) hs_b7 (by omega) (by omega)) (qr1 _ _ hs_a0) ⟨by decide, rfl⟩ dX8_drive_25 rfl rfl (by simp [Value.category]) (by decide) (by omega) (by omega) (by decide) (fun r56 S58 g57 pr56 qr56 hg57 => ?_)
      obtain ⟨rfl, rfl, z59, rfl, lz59, uz59⟩ := pr56
      refine X_st [.int (iI z59)] rfl ?_
      refine X_istoren hK (i := 3) [(3, .int (iI z59)), (0, .ref a0), (1, .ref a1), (2, .ref a2)] dX8_drive_28 rfl (by decide) rfl ?_
      refine X_iloadn hK (i := 3) 0 dX8_drive_29 rfl rfl ?_
      refine X_ldc hK (n := 1000000) dX8_drive_30 m_53_22 (by decide) ?_
      refine X_icmp_ne hK 37 (by omega) (by omega) dX8_drive_32 (by decide) (fun c60 => ?_) (fun c60 => ?_)
      · refine X_aloadn hK (i := 0) 1 dX8_drive_37 rfl rfl ?_
        refine X_aloadn hK (i := 1) 2 dX8_drive_38 rfl rfl ?_
        refine X_iloadn hK (i := 3) 0 dX8_drive_39 rfl rfl ?_
        refine X_callV hK [.ref a1, .int (iI z59)] [] lk_X8_44 (c_dropOthers_4 _ _ _ _ _ S3 g54 a0 a1 z59 z6 b7 n8 (qr1 _ _ hs_a0) (qr1 _ _ hs_a1) (by omega) (by omega) ((hg54 a0 9 0 4 (qr1 _ _ hs_a0) (by decide)).trans ez6) ((hg54 a0 9 0 3 (qr1 _ _ hs_a0) (by decide)).trans eb7) hs_b7 (by omega) (by omega)) (qr1 _ _ hs_a0) ⟨by decide, rfl⟩ dX8_drive_40 rfl rfl (by simp [Value.category]) (by decide) (by omega) (by omega) (by decide) (fun r61 S63 g62 pr61 qr61 hg62 => ?_)
        obtain ⟨rfl, rfl⟩ := pr61
        refine X_st [] rfl ?_
        refine X_aloadn hK (i := 0) 1 dX8_drive_43 rfl rfl ?_
        refine X_aloadn hK (i := 1) 2 dX8_drive_44 rfl rfl ?_
        refine X_callV hK [.ref a1] [] lk_X8_48 (c_walk_4 _ _ _ _ _ S3 g62 a0 a1 z6 b7 n8 (qr1 _ _ hs_a0) (qr1 _ _ hs_a1) (by omega) ((hg62 a0 9 0 4 (qr1 _ _ hs_a0) (by decide)).trans ((hg54 a0 9 0 4 (qr1 _ _ hs_a0) (by decide)).trans ez6)) ((hg62 a0 9 0 3 (qr1 _ _ hs_a0) (by decide)).trans ((hg54 a0 9 0 3 (qr1 _ _ hs_a0) (by decide)).trans eb7)) hs_b7 (by omega) (by omega)) (qr1 _ _ hs_a0) ⟨by decide, rfl⟩ dX8_drive_45 rfl rfl (by simp [Value.category]) (by decide) (by omega) (by omega) (by decide) (fun r64 S66 g65 pr64 qr64 hg65 => ?_)
        obtain ⟨rfl, rfl⟩ := pr64
        refine X_st [] rfl ?_
        refine X_iloadn hK (i := 3) 0 dX8_drive_48 rfl rfl ?_
        exact hret _ _ _ _ _ _ _ dX8_drive_49 ⟨(xNw2.tr xNw2.rf wr1 (by decide)), z59, rfl, (by omega), (by omega), (by omega)⟩ (by omega) (by omega)
      · refine X_iconst hK dX8_drive_35 ?_
        exact hret _ _ _ _ _ _ _ dX8_drive_36 ⟨(xNw2.tr xNw2.rf wr1 (by decide)), (-1), rfl, (by omega), (by omega), (by omega)⟩ (by omega) (by omega)
    · have h9c10 : 288 ≤ n8 := by have h8 := fz6; rw [c10] at h8; exact h8
      refine X_aloadn hK (i := 0) 0 dX8_drive_19 rfl rfl ?_
      refine X_aloadn hK (i := 1) 1 dX8_drive_20 rfl rfl ?_
      refine X_callV hK [.ref a1] [] lk_X8_35 (c_findSoonest_5 _ _ _ _ _ S3 g2 a0 a1 z6 b7 n8 (qr1 _ _ hs_a0) (qr1 _ _ hs_a1) (by omega) ez6 eb7 hs_b7 (by omega) (by omega)) (qr1 _ _ hs_a0) ⟨by decide, rfl⟩ dX8_drive_21 rfl rfl (by simp [Value.category]) (by decide) (by omega) (by omega) (by decide) (fun r67 S69 g68 pr67 qr67 hg68 => ?_)
      obtain ⟨rfl, rfl⟩ := pr67
      refine X_st [] rfl ?_
      refine X_aloadn hK (i := 0) 0 dX8_drive_24 rfl rfl ?_
      refine X_callV hK [] [] lk_X8_39 (c_firstAtEnd_5 _ _ _ _ _ S3 g68 a0 z6 b7 n8 (qr1 _ _ hs_a0) (by omega) ((hg68 a0 9 0 4 (qr1 _ _ hs_a0) (by decide)).trans ez6) ((hg68 a0 9 0 3 (qr1 _ _ hs_a0) (by decide)).trans eb7) hs_b7 (by omega) (by omega)) (qr1 _ _ hs_a0) ⟨by decide, rfl⟩ dX8_drive_25 rfl rfl (by simp [Value.category]) (by decide) (by omega) (by omega) (by decide) (fun r70 S72 g71 pr70 qr70 hg71 => ?_)
      obtain ⟨rfl, rfl, z73, rfl, lz73, uz73⟩ := pr70
      refine X_st [.int (iI z73)] rfl ?_
      refine X_istoren hK (i := 3) [(3, .int (iI z73)), (0, .ref a0), (1, .ref a1), (2, .ref a2)] dX8_drive_28 rfl (by decide) rfl ?_
      refine X_iloadn hK (i := 3) 0 dX8_drive_29 rfl rfl ?_
      refine X_ldc hK (n := 1000000) dX8_drive_30 m_53_22 (by decide) ?_
      refine X_icmp_ne hK 37 (by omega) (by omega) dX8_drive_32 (by decide) (fun c74 => ?_) (fun c74 => ?_)
      · refine X_aloadn hK (i := 0) 1 dX8_drive_37 rfl rfl ?_
        refine X_aloadn hK (i := 1) 2 dX8_drive_38 rfl rfl ?_
        refine X_iloadn hK (i := 3) 0 dX8_drive_39 rfl rfl ?_
        refine X_callV hK [.ref a1, .int (iI z73)] [] lk_X8_44 (c_dropOthers_5 _ _ _ _ _ S3 g68 a0 a1 z73 z6 b7 n8 (qr1 _ _ hs_a0) (qr1 _ _ hs_a1) (by omega) (by omega) ((hg68 a0 9 0 4 (qr1 _ _ hs_a0) (by decide)).trans ez6) ((hg68 a0 9 0 3 (qr1 _ _ hs_a0) (by decide)).trans eb7) hs_b7 (by omega) (by omega)) (qr1 _ _ hs_a0) ⟨by decide, rfl⟩ dX8_drive_40 rfl rfl (by simp [Value.category]) (by decide) (by omega) (by omega) (by decide) (fun r75 S77 g76 pr75 qr75 hg76 => ?_)
        obtain ⟨rfl, rfl⟩ := pr75
        refine X_st [] rfl ?_
        refine X_aloadn hK (i := 0) 1 dX8_drive_43 rfl rfl ?_
        refine X_aloadn hK (i := 1) 2 dX8_drive_44 rfl rfl ?_
        refine X_callV hK [.ref a1] [] lk_X8_48 (c_walk_5 _ _ _ _ _ S3 g76 a0 a1 z6 b7 n8 (qr1 _ _ hs_a0) (qr1 _ _ hs_a1) (by omega) ((hg76 a0 9 0 4 (qr1 _ _ hs_a0) (by decide)).trans ((hg68 a0 9 0 4 (qr1 _ _ hs_a0) (by decide)).trans ez6)) ((hg76 a0 9 0 3 (qr1 _ _ hs_a0) (by decide)).trans ((hg68 a0 9 0 3 (qr1 _ _ hs_a0) (by decide)).trans eb7)) hs_b7 (by omega) (by omega)) (qr1 _ _ hs_a0) ⟨by decide, rfl⟩ dX8_drive_45 rfl rfl (by simp [Value.category]) (by decide) (by omega) (by omega) (by decide) (fun r78 S80 g79 pr78 qr78 hg79 => ?_)
        obtain ⟨rfl, rfl⟩ := pr78
        refine X_st [] rfl ?_
        refine X_iloadn hK (i := 3) 0 dX8_drive_48 rfl rfl ?_
        exact hret _ _ _ _ _ _ _ dX8_drive_49 ⟨(xNw2.tr xNw2.rf wr1 (by decide)), z73, rfl, (by omega), (by omega), (by omega)⟩ (by omega) (by omega)
      · refine X_iconst hK dX8_drive_35 ?_
        exact hret _ _ _ _ _ _ _ dX8_drive_36 ⟨(xNw2.tr xNw2.rf wr1 (by decide)), (-1), rfl, (by omega), (by omega), (by omega)⟩ (by omega) (by omega)
    · have h9c10 : 576 ≤ n8 := by have h8 := fz6; rw [c10] at h8; exact h8
      refine X_aloadn hK (i := 0) 0 dX8_drive_19 rfl rfl ?_
      refine X_aloadn hK (i := 1) 1 dX8_drive_20 rfl rfl ?_
      refine X_callV hK [.ref a1] [] lk_X8_35 (c_findSoonest_6 _ _ _ _ _ S3 g2 a0 a1 z6 b7 n8 (qr1 _ _ hs_a0) (qr1 _ _ hs_a1) (by omega) ez6 eb7 hs_b7 (by omega) (by omega)) (qr1 _ _ hs_a0) ⟨by decide, rfl⟩ dX8_drive_21 rfl rfl (by simp [Value.category]) (by decide) (by omega) (by omega) (by decide) (fun r81 S83 g82 pr81 qr81 hg82 => ?_)
      obtain ⟨rfl, rfl⟩ := pr81
      refine X_st [] rfl ?_
      refine X_aloadn hK (i := 0) 0 dX8_drive_24 rfl rfl ?_
      refine X_callV hK [] [] lk_X8_39 (c_firstAtEnd_6 _ _ _ _ _ S3 g82 a0 z6 b7 n8 (qr1 _ _ hs_a0) (by omega) ((hg82 a0 9 0 4 (qr1 _ _ hs_a0) (by decide)).trans ez6) ((hg82 a0 9 0 3 (qr1 _ _ hs_a0) (by decide)).trans eb7) hs_b7 (by omega) (by omega)) (qr1 _ _ hs_a0) ⟨by decide, rfl⟩ dX8_drive_25 rfl rfl (by simp [Value.category]) (by decide) (by omega) (by omega) (by decide) (fun r84 S86 g85 pr84 qr84 hg85 => ?_)
      obtain ⟨rfl, rfl, z87, rfl, lz87, uz87⟩ := pr84
      refine X_st [.int (iI z87)] rfl ?_
      refine X_istoren hK (i := 3) [(3, .int (iI z87)), (0, .ref a0), (1, .ref a1), (2, .ref a2)] dX8_drive_28 rfl (by decide) rfl ?_
      refine X_iloadn hK (i := 3) 0 dX8_drive_29 rfl rfl ?_
      refine X_ldc hK (n := 1000000) dX8_drive_30 m_53_22 (by decide) ?_
      refine X_icmp_ne hK 37 (by omega) (by omega) dX8_drive_32 (by decide) (fun c88 => ?_) (fun c88 => ?_)
      · refine X_aloadn hK (i := 0) 1 dX8_drive_37 rfl rfl ?_
        refine X_aloadn hK (i := 1) 2 dX8_drive_38 rfl rfl ?_
        refine X_iloadn hK (i := 3) 0 dX8_drive_39 rfl rfl ?_
        refine X_callV hK [.ref a1, .int (iI z87)] [] lk_X8_44 (c_dropOthers_6 _ _ _ _ _ S3 g82 a0 a1 z87 z6 b7 n8 (qr1 _ _ hs_a0) (qr1 _ _ hs_a1) (by omega) (by omega) ((hg82 a0 9 0 4 (qr1 _ _ hs_a0) (by decide)).trans ez6) ((hg82 a0 9 0 3 (qr1 _ _ hs_a0) (by decide)).trans eb7) hs_b7 (by omega) (by omega)) (qr1 _ _ hs_a0) ⟨by decide, rfl⟩ dX8_drive_40 rfl rfl (by simp [Value.category]) (by decide) (by omega) (by omega) (by decide) (fun r89 S91 g90 pr89 qr89 hg90 => ?_)
        obtain ⟨rfl, rfl⟩ := pr89
        refine X_st [] rfl ?_
        refine X_aloadn hK (i := 0) 1 dX8_drive_43 rfl rfl ?_
        refine X_aloadn hK (i := 1) 2 dX8_drive_44 rfl rfl ?_
        refine X_callV hK [.ref a1] [] lk_X8_48 (c_walk_6 _ _ _ _ _ S3 g90 a0 a1 z6 b7 n8 (qr1 _ _ hs_a0) (qr1 _ _ hs_a1) (by omega) ((hg90 a0 9 0 4 (qr1 _ _ hs_a0) (by decide)).trans ((hg82 a0 9 0 4 (qr1 _ _ hs_a0) (by decide)).trans ez6)) ((hg90 a0 9 0 3 (qr1 _ _ hs_a0) (by decide)).trans ((hg82 a0 9 0 3 (qr1 _ _ hs_a0) (by decide)).trans eb7)) hs_b7 (by omega) (by omega)) (qr1 _ _ hs_a0) ⟨by decide, rfl⟩ dX8_drive_45 rfl rfl (by simp [Value.category]) (by decide) (by omega) (by omega) (by decide) (fun r92 S94 g93 pr92 qr92 hg93 => ?_)
        obtain ⟨rfl, rfl⟩ := pr92
        refine X_st [] rfl ?_
        refine X_iloadn hK (i := 3) 0 dX8_drive_48 rfl rfl ?_
        exact hret _ _ _ _ _ _ _ dX8_drive_49 ⟨(xNw2.tr xNw2.rf wr1 (by decide)), z87, rfl, (by omega), (by omega), (by omega)⟩ (by omega) (by omega)
      · refine X_iconst hK dX8_drive_35 ?_
        exact hret _ _ _ _ _ _ _ dX8_drive_36 ⟨(xNw2.tr xNw2.rf wr1 (by decide)), (-1), rfl, (by omega), (by omega), (by omega)⟩ (by omega) (by omega)
    · have h9c10 : 1152 ≤ n8 := by have h8 := fz6; rw [c10] at h8; exact h8
      refine X_aloadn hK (i := 0) 0 dX8_drive_19 rfl rfl ?_
      refine X_aloadn hK (i := 1) 1 dX8_drive_20 rfl rfl ?_
      refine X_callV hK [.ref a1] [] lk_X8_35 (c_findSoonest_7 _ _ _ _ _ S3 g2 a0 a1 z6 b7 n8 (qr1 _ _ hs_a0) (qr1 _ _ hs_a1) (by omega) ez6 eb7 hs_b7 (by omega) (by omega)) (qr1 _ _ hs_a0) ⟨by decide, rfl⟩ dX8_drive_21 rfl rfl (by simp [Value.category]) (by decide) (by omega) (by omega) (by decide) (fun r95 S97 g96 pr95 qr95 hg96 => ?_)
      obtain ⟨rfl, rfl⟩ := pr95
      refine X_st [] rfl ?_
      refine X_aloadn hK (i := 0) 0 dX8_drive_24 rfl rfl ?_
      refine X_callV hK [] [] lk_X8_39 (c_firstAtEnd_7 _ _ _ _ _ S3 g96 a0 z6 b7 n8 (qr1 _ _ hs_a0) (by omega) ((hg96 a0 9 0 4 (qr1 _ _ hs_a0) (by decide)).trans ez6) ((hg96 a0 9 0 3 (qr1 _ _ hs_a0) (by decide)).trans eb7) hs_b7 (by omega) (by omega)) (qr1 _ _ hs_a0) ⟨by decide, rfl⟩ dX8_drive_25 rfl rfl (by simp [Value.category]) (by decide) (by omega) (by omega) (by decide) (fun r98 S100 g99 pr98 qr98 hg99 => ?_)
      obtain ⟨rfl, rfl, z101, rfl, lz101, uz101⟩ := pr98
      refine X_st [.int (iI z101)] rfl ?_
      refine X_istoren hK (i := 3) [(3, .int (iI z101)), (0, .ref a0), (1, .ref a1), (2, .ref a2)] dX8_drive_28 rfl (by decide) rfl ?_
      refine X_iloadn hK (i := 3) 0 dX8_drive_29 rfl rfl ?_
      refine X_ldc hK (n := 1000000) dX8_drive_30 m_53_22 (by decide) ?_
      refine X_icmp_ne hK 37 (by omega) (by omega) dX8_drive_32 (by decide) (fun c102 => ?_) (fun c102 => ?_)
      · refine X_aloadn hK (i := 0) 1 dX8_drive_37 rfl rfl ?_
        refine X_aloadn hK (i := 1) 2 dX8_drive_38 rfl rfl ?_
        refine X_iloadn hK (i := 3) 0 dX8_drive_39 rfl rfl ?_
        refine X_callV hK [.ref a1, .int (iI z101)] [] lk_X8_44 (c_dropOthers_7 _ _ _ _ _ S3 g96 a0 a1 z101 z6 b7 n8 (qr1 _ _ hs_a0) (qr1 _ _ hs_a1) (by omega) (by omega) ((hg96 a0 9 0 4 (qr1 _ _ hs_a0) (by decide)).trans ez6) ((hg96 a0 9 0 3 (qr1 _ _ hs_a0) (by decide)).trans eb7) hs_b7 (by omega) (by omega)) (qr1 _ _ hs_a0) ⟨by decide, rfl⟩ dX8_drive_40 rfl rfl (by simp [Value.category]) (by decide) (by omega) (by omega) (by decide) (fun r103 S105 g104 pr103 qr103 hg104 => ?_)
        obtain ⟨rfl, rfl⟩ := pr103
        refine X_st [] rfl ?_
        refine X_aloadn hK (i := 0) 1 dX8_drive_43 rfl rfl ?_
        refine X_aloadn hK (i := 1) 2 dX8_drive_44 rfl rfl ?_
        refine X_callV hK [.ref a1] [] lk_X8_48 (c_walk_7 _ _ _ _ _ S3 g104 a0 a1 z6 b7 n8 (qr1 _ _ hs_a0) (qr1 _ _ hs_a1) (by omega) ((hg104 a0 9 0 4 (qr1 _ _ hs_a0) (by decide)).trans ((hg96 a0 9 0 4 (qr1 _ _ hs_a0) (by decide)).trans ez6)) ((hg104 a0 9 0 3 (qr1 _ _ hs_a0) (by decide)).trans ((hg96 a0 9 0 3 (qr1 _ _ hs_a0) (by decide)).trans eb7)) hs_b7 (by omega) (by omega)) (qr1 _ _ hs_a0) ⟨by decide, rfl⟩ dX8_drive_45 rfl rfl (by simp [Value.category]) (by decide) (by omega) (by omega) (by decide) (fun r106 S108 g107 pr106 qr106 hg107 => ?_)
        obtain ⟨rfl, rfl⟩ := pr106
        refine X_st [] rfl ?_
        refine X_iloadn hK (i := 3) 0 dX8_drive_48 rfl rfl ?_
        exact hret _ _ _ _ _ _ _ dX8_drive_49 ⟨(xNw2.tr xNw2.rf wr1 (by decide)), z101, rfl, (by omega), (by omega), (by omega)⟩ (by omega) (by omega)
      · refine X_iconst hK dX8_drive_35 ?_
        exact hret _ _ _ _ _ _ _ dX8_drive_36 ⟨(xNw2.tr xNw2.rf wr1 (by decide)), (-1), rfl, (by omega), (by omega), (by omega)⟩ (by omega) (by omega)
    · have h9c10 : 2304 ≤ n8 := by have h8 := fz6; rw [c10] at h8; exact h8
      refine X_aloadn hK (i := 0) 0 dX8_drive_19 rfl rfl ?_
      refine X_aloadn hK (i := 1) 1 dX8_drive_20 rfl rfl ?_
      refine X_callV hK [.ref a1] [] lk_X8_35 (c_findSoonest_8 _ _ _ _ _ S3 g2 a0 a1 z6 b7 n8 (qr1 _ _ hs_a0) (qr1 _ _ hs_a1) (by omega) ez6 eb7 hs_b7 (by omega) (by omega)) (qr1 _ _ hs_a0) ⟨by decide, rfl⟩ dX8_drive_21 rfl rfl (by simp [Value.category]) (by decide) (by omega) (by omega) (by decide) (fun r109 S111 g110 pr109 qr109 hg110 => ?_)
      obtain ⟨rfl, rfl⟩ := pr109
      refine X_st [] rfl ?_
      refine X_aloadn hK (i := 0) 0 dX8_drive_24 rfl rfl ?_
      refine X_callV hK [] [] lk_X8_39 (c_firstAtEnd_8 _ _ _ _ _ S3 g110 a0 z6 b7 n8 (qr1 _ _ hs_a0) (by omega) ((hg110 a0 9 0 4 (qr1 _ _ hs_a0) (by decide)).trans ez6) ((hg110 a0 9 0 3 (qr1 _ _ hs_a0) (by decide)).trans eb7) hs_b7 (by omega) (by omega)) (qr1 _ _ hs_a0) ⟨by decide, rfl⟩ dX8_drive_25 rfl rfl (by simp [Value.category]) (by decide) (by omega) (by omega) (by decide) (fun r112 S114 g113 pr112 qr112 hg113 => ?_)
      obtain ⟨rfl, rfl, z115, rfl, lz115, uz115⟩ := pr112
      refine X_st [.int (iI z115)] rfl ?_
      refine X_istoren hK (i := 3) [(3, .int (iI z115)), (0, .ref a0), (1, .ref a1), (2, .ref a2)] dX8_drive_28 rfl (by decide) rfl ?_
      refine X_iloadn hK (i := 3) 0 dX8_drive_29 rfl rfl ?_
      refine X_ldc hK (n := 1000000) dX8_drive_30 m_53_22 (by decide) ?_
      refine X_icmp_ne hK 37 (by omega) (by omega) dX8_drive_32 (by decide) (fun c116 => ?_) (fun c116 => ?_)
      · refine X_aloadn hK (i := 0) 1 dX8_drive_37 rfl rfl ?_
        refine X_aloadn hK (i := 1) 2 dX8_drive_38 rfl rfl ?_
        refine X_iloadn hK (i := 3) 0 dX8_drive_39 rfl rfl ?_
        refine X_callV hK [.ref a1, .int (iI z115)] [] lk_X8_44 (c_dropOthers_8 _ _ _ _ _ S3 g110 a0 a1 z115 z6 b7 n8 (qr1 _ _ hs_a0) (qr1 _ _ hs_a1) (by omega) (by omega) ((hg110 a0 9 0 4 (qr1 _ _ hs_a0) (by decide)).trans ez6) ((hg110 a0 9 0 3 (qr1 _ _ hs_a0) (by decide)).trans eb7) hs_b7 (by omega) (by omega)) (qr1 _ _ hs_a0) ⟨by decide, rfl⟩ dX8_drive_40 rfl rfl (by simp [Value.category]) (by decide) (by omega) (by omega) (by decide) (fun r117 S119 g118 pr117 qr117 hg118 => ?_)
        obtain ⟨rfl, rfl⟩ := pr117
        refine X_st [] rfl ?_
        refine X_aloadn hK (i := 0) 1 dX8_drive_43 rfl rfl ?_
        refine X_aloadn hK (i := 1) 2 dX8_drive_44 rfl rfl ?_
        refine X_callV hK [.ref a1] [] lk_X8_48 (c_walk_8 _ _ _ _ _ S3 g118 a0 a1 z6 b7 n8 (qr1 _ _ hs_a0) (qr1 _ _ hs_a1) (by omega) ((hg118 a0 9 0 4 (qr1 _ _ hs_a0) (by decide)).trans ((hg110 a0 9 0 4 (qr1 _ _ hs_a0) (by decide)).trans ez6)) ((hg118 a0 9 0 3 (qr1 _ _ hs_a0) (by decide)).trans ((hg110 a0 9 0 3 (qr1 _ _ hs_a0) (by decide)).trans eb7)) hs_b7 (by omega) (by omega)) (qr1 _ _ hs_a0) ⟨by decide, rfl⟩ dX8_drive_45 rfl rfl (by simp [Value.category]) (by decide) (by omega) (by omega) (by decide) (fun r120 S122 g121 pr120 qr120 hg121 => ?_)
        obtain ⟨rfl, rfl⟩ := pr120
        refine X_st [] rfl ?_
        refine X_iloadn hK (i := 3) 0 dX8_drive_48 rfl rfl ?_
        exact hret _ _ _ _ _ _ _ dX8_drive_49 ⟨(xNw2.tr xNw2.rf wr1 (by decide)), z115, rfl, (by omega), (by omega), (by omega)⟩ (by omega) (by omega)
      · refine X_iconst hK dX8_drive_35 ?_
        exact hret _ _ _ _ _ _ _ dX8_drive_36 ⟨(xNw2.tr xNw2.rf wr1 (by decide)), (-1), rfl, (by omega), (by omega), (by omega)⟩ (by omega) (by omega)
    · have h9c10 : 4608 ≤ n8 := by have h8 := fz6; rw [c10] at h8; exact h8
      refine X_aloadn hK (i := 0) 0 dX8_drive_19 rfl rfl ?_
      refine X_aloadn hK (i := 1) 1 dX8_drive_20 rfl rfl ?_
      refine X_callV hK [.ref a1] [] lk_X8_35 (c_findSoonest_9 _ _ _ _ _ S3 g2 a0 a1 z6 b7 n8 (qr1 _ _ hs_a0) (qr1 _ _ hs_a1) (by omega) ez6 eb7 hs_b7 (by omega) (by omega)) (qr1 _ _ hs_a0) ⟨by decide, rfl⟩ dX8_drive_21 rfl rfl (by simp [Value.category]) (by decide) (by omega) (by omega) (by decide) (fun r123 S125 g124 pr123 qr123 hg124 => ?_)
      obtain ⟨rfl, rfl⟩ := pr123
      refine X_st [] rfl ?_
      refine X_aloadn hK (i := 0) 0 dX8_drive_24 rfl rfl ?_
      refine X_callV hK [] [] lk_X8_39 (c_firstAtEnd_9 _ _ _ _ _ S3 g124 a0 z6 b7 n8 (qr1 _ _ hs_a0) (by omega) ((hg124 a0 9 0 4 (qr1 _ _ hs_a0) (by decide)).trans ez6) ((hg124 a0 9 0 3 (qr1 _ _ hs_a0) (by decide)).trans eb7) hs_b7 (by omega) (by omega)) (qr1 _ _ hs_a0) ⟨by decide, rfl⟩ dX8_drive_25 rfl rfl (by simp [Value.category]) (by decide) (by omega) (by omega) (by decide) (fun r126 S128 g127 pr126 qr126 hg127 => ?_)
      obtain ⟨rfl, rfl, z129, rfl, lz129, uz129⟩ := pr126
      refine X_st [.int (iI z129)] rfl ?_
      refine X_istoren hK (i := 3) [(3, .int (iI z129)), (0, .ref a0), (1, .ref a1), (2, .ref a2)] dX8_drive_28 rfl (by decide) rfl ?_
      refine X_iloadn hK (i := 3) 0 dX8_drive_29 rfl rfl ?_
      refine X_ldc hK (n := 1000000) dX8_drive_30 m_53_22 (by decide) ?_
      refine X_icmp_ne hK 37 (by omega) (by omega) dX8_drive_32 (by decide) (fun c130 => ?_) (fun c130 => ?_)
      · refine X_aloadn hK (i := 0) 1 dX8_drive_37 rfl rfl ?_
        refine X_aloadn hK (i := 1) 2 dX8_drive_38 rfl rfl ?_
        refine X_iloadn hK (i := 3) 0 dX8_drive_39 rfl rfl ?_
        refine X_callV hK [.ref a1, .int (iI z129)] [] lk_X8_44 (c_dropOthers_9 _ _ _ _ _ S3 g124 a0 a1 z129 z6 b7 n8 (qr1 _ _ hs_a0) (qr1 _ _ hs_a1) (by omega) (by omega) ((hg124 a0 9 0 4 (qr1 _ _ hs_a0) (by decide)).trans ez6) ((hg124 a0 9 0 3 (qr1 _ _ hs_a0) (by decide)).trans eb7) hs_b7 (by omega) (by omega)) (qr1 _ _ hs_a0) ⟨by decide, rfl⟩ dX8_drive_40 rfl rfl (by simp [Value.category]) (by decide) (by omega) (by omega) (by decide) (fun r131 S133 g132 pr131 qr131 hg132 => ?_)
        obtain ⟨rfl, rfl⟩ := pr131
        refine X_st [] rfl ?_
        refine X_aloadn hK (i := 0) 1 dX8_drive_43 rfl rfl ?_
        refine X_aloadn hK (i := 1) 2 dX8_drive_44 rfl rfl ?_
        refine X_callV hK [.ref a1] [] lk_X8_48 (c_walk_9 _ _ _ _ _ S3 g132 a0 a1 z6 b7 n8 (qr1 _ _ hs_a0) (qr1 _ _ hs_a1) (by omega) ((hg132 a0 9 0 4 (qr1 _ _ hs_a0) (by decide)).trans ((hg124 a0 9 0 4 (qr1 _ _ hs_a0) (by decide)).trans ez6)) ((hg132 a0 9 0 3 (qr1 _ _ hs_a0) (by decide)).trans ((hg124 a0 9 0 3 (qr1 _ _ hs_a0) (by decide)).trans eb7)) hs_b7 (by omega) (by omega)) (qr1 _ _ hs_a0) ⟨by decide, rfl⟩ dX8_drive_45 rfl rfl (by simp [Value.category]) (by decide) (by omega) (by omega) (by decide) (fun r134 S136 g135 pr134 qr134 hg135 => ?_)
        obtain ⟨rfl, rfl⟩ := pr134
        refine X_st [] rfl ?_
        refine X_iloadn hK (i := 3) 0 dX8_drive_48 rfl rfl ?_
        exact hret _ _ _ _ _ _ _ dX8_drive_49 ⟨(xNw2.tr xNw2.rf wr1 (by decide)), z129, rfl, (by omega), (by omega), (by omega)⟩ (by omega) (by omega)
      · refine X_iconst hK dX8_drive_35 ?_
        exact hret _ _ _ _ _ _ _ dX8_drive_36 ⟨(xNw2.tr xNw2.rf wr1 (by decide)), (-1), rfl, (by omega), (by omega), (by omega)⟩ (by omega) (by omega)
  · refine X_aloadn hK (i := 0) 0 dX8_drive_12 rfl rfl ?_
    refine X_iconst hK dX8_drive_13 ?_
    refine X_puti hK fl_X8_28_9 (qr1 _ _ hs_a0) (by decide) sl_9_5 (by omega) (by omega) dX8_drive_14 (fun g137 hg137 => ?_)
    refine X_iconst hK dX8_drive_17 ?_
    exact hret _ _ _ _ _ _ _ dX8_drive_18 ⟨(xNw2.tr xNw2.rf wr1 (by decide)), 0, rfl, (by omega), (by omega), (by omega)⟩ (by omega) (by omega)
