theorem m_3_22 : Cond.initialized RX3 ∈ wsL_law := ch_3 _ (List.mem_of_getElem? (i := 22) rfl)
theorem m_4_12 : Cond.fieldLink RX3 9 "PaperBoys$City" "sky" "[I" ∈ wsL_law := ch_4 _ (List.mem_of_getElem? (i := 12) rfl)
theorem m_4_14 : Cond.fieldLink RX3 17 "PaperBoys$City" "headlines" "[[I" ∈ wsL_law := ch_4 _ (List.mem_of_getElem? (i := 14) rfl)
theorem m_4_15 : Cond.fieldLink RX3 20 "PaperBoys$City" "wet" "[I" ∈ wsL_law := ch_4 _ (List.mem_of_getElem? (i := 15) rfl)
theorem m_4_16 : Cond.fieldLink RX3 23 "PaperBoys$City" "loud" "[I" ∈ wsL_law := ch_4 _ (List.mem_of_getElem? (i := 16) rfl)
theorem m_4_17 : Cond.fieldLink RX3 26 "PaperBoys$City" "wants" "[[I" ∈ wsL_law := ch_4 _ (List.mem_of_getElem? (i := 17) rfl)
theorem m_18_5 : Cond.fieldLink RX3 35 "PaperBoys$Tape" "size" "I" ∈ wsL_law := ch_18 _ (List.mem_of_getElem? (i := 5) rfl)
theorem m_18_6 : Cond.fieldLink RX3 41 "PaperBoys$Tape" "bytes" "[I" ∈ wsL_law := ch_18 _ (List.mem_of_getElem? (i := 6) rfl)
theorem m_21_6 : Cond.instanceMethod yX3_askedFor ∈ wsL_law := ch_21 _ (List.mem_of_getElem? (i := 6) rfl)
theorem m_21_7 : Cond.selects RX3 yX3_askedFor yX3_askedFor ∈ wsL_law := ch_21 _ (List.mem_of_getElem? (i := 7) rfl)
theorem m_21_8 : Cond.code yX3_askedFor cX3_askedFor 6 (some .int) ∈ wsL_law := ch_21 _ (List.mem_of_getElem? (i := 8) rfl)
theorem m_40_3 : Cond.methodLink RX3 44 yX3_askedFor ∈ wsL_law := ch_40 _ (List.mem_of_getElem? (i := 3) rfl)
theorem kd22_0 : (decode cX3_askedFor 0 = .ok (.aload_n 0, 1)) ∧ (decode cX3_askedFor 1 = .ok (.getfield 26, 3)) ∧ (decode cX3_askedFor 4 = .ok (.iload_n 1, 1)) ∧ (decode cX3_askedFor 5 = .ok (.aaload, 1)) ∧ (decode cX3_askedFor 6 = .ok (.iload_n 2, 1)) ∧ (decode cX3_askedFor 7 = .ok (.iaload, 1)) ∧ (decode cX3_askedFor 8 = .ok (.aload_n 0, 1)) ∧ (decode cX3_askedFor 9 = .ok (.getfield 20, 3)) ∧ (decode cX3_askedFor 12 = .ok (.iload_n 3, 1)) ∧ (decode cX3_askedFor 13 = .ok (.iaload, 1)) ∧ (decode cX3_askedFor 14 = .ok (.imul, 1)) ∧ (decode cX3_askedFor 15 = .ok (.bipush 100, 2)) := by decide +kernel
theorem kd22_1 : (decode cX3_askedFor 17 = .ok (.idiv, 1)) ∧ (decode cX3_askedFor 18 = .ok (.istore 5, 2)) ∧ (decode cX3_askedFor 20 = .ok (.iload 5, 2)) ∧ (decode cX3_askedFor 22 = .ok (.aload_n 0, 1)) ∧ (decode cX3_askedFor 23 = .ok (.getfield 23, 3)) ∧ (decode cX3_askedFor 26 = .ok (.iload 4, 2)) ∧ (decode cX3_askedFor 28 = .ok (.iaload, 1)) ∧ (decode cX3_askedFor 29 = .ok (.imul, 1)) ∧ (decode cX3_askedFor 30 = .ok (.bipush 100, 2)) ∧ (decode cX3_askedFor 32 = .ok (.idiv, 1)) ∧ (decode cX3_askedFor 33 = .ok (.ireturn, 1)) ∧ (decode cX3_askedOn 0 = .ok (.aload_n 0, 1)) := by decide +kernel
theorem kd22_2 : (decode cX3_askedOn 1 = .ok (.iload_n 2, 1)) ∧ (decode cX3_askedOn 2 = .ok (.iload_n 3, 1)) ∧ (decode cX3_askedOn 3 = .ok (.aload_n 0, 1)) ∧ (decode cX3_askedOn 4 = .ok (.getfield 9, 3)) ∧ (decode cX3_askedOn 7 = .ok (.iload_n 1, 1)) ∧ (decode cX3_askedOn 8 = .ok (.iaload, 1)) ∧ (decode cX3_askedOn 9 = .ok (.aload_n 0, 1)) ∧ (decode cX3_askedOn 10 = .ok (.getfield 17, 3)) ∧ (decode cX3_askedOn 13 = .ok (.iload_n 3, 1)) ∧ (decode cX3_askedOn 14 = .ok (.aaload, 1)) ∧ (decode cX3_askedOn 15 = .ok (.iload_n 1, 1)) ∧ (decode cX3_askedOn 16 = .ok (.iaload, 1)) := by decide +kernel
theorem kd22_3 : (decode cX3_askedOn 17 = .ok (.invokevirtual 44, 3)) ∧ (decode cX3_askedOn 20 = .ok (.ireturn, 1)) ∧ (decode cX3_setSky 0 = .ok (.iconst 0, 1)) ∧ (decode cX3_setSky 1 = .ok (.istore_n 2, 1)) ∧ (decode cX3_setSky 2 = .ok (.iconst 0, 1)) ∧ (decode cX3_setSky 3 = .ok (.istore_n 3, 1)) ∧ (decode cX3_setSky 4 = .ok (.iload_n 3, 1)) ∧ (decode cX3_setSky 5 = .ok (.sipush 400, 3)) ∧ (decode cX3_setSky 8 = .ok (.if_icmp .ge 56, 3)) ∧ (decode cX3_setSky 11 = .ok (.iload_n 3, 1)) ∧ (decode cX3_setSky 12 = .ok (.aload_n 1, 1)) ∧ (decode cX3_setSky 13 = .ok (.getfield 35, 3)) := by decide +kernel
theorem kd22_4 : (decode cX3_setSky 16 = .ok (.if_icmp .ge 12, 3)) ∧ (decode cX3_setSky 19 = .ok (.aload_n 1, 1)) ∧ (decode cX3_setSky 20 = .ok (.getfield 41, 3)) ∧ (decode cX3_setSky 23 = .ok (.iload_n 3, 1)) ∧ (decode cX3_setSky 24 = .ok (.iaload, 1)) ∧ (decode cX3_setSky 25 = .ok (.goto 4, 3)) ∧ (decode cX3_setSky 28 = .ok (.iconst 3, 1)) ∧ (decode cX3_setSky 29 = .ok (.istore 4, 2)) ∧ (decode cX3_setSky 31 = .ok (.aload_n 0, 1)) ∧ (decode cX3_setSky 32 = .ok (.getfield 9, 3)) ∧ (decode cX3_setSky 35 = .ok (.iload_n 3, 1)) ∧ (decode cX3_setSky 36 = .ok (.iload 4, 2)) := by decide +kernel
theorem kd22_5 : (decode cX3_setSky 38 = .ok (.sipush 255, 3)) ∧ (decode cX3_setSky 41 = .ok (.if_icmp .ne 7, 3)) ∧ (decode cX3_setSky 44 = .ok (.iload_n 2, 1)) ∧ (decode cX3_setSky 45 = .ok (.goto 5, 3)) ∧ (decode cX3_setSky 48 = .ok (.iload 4, 2)) ∧ (decode cX3_setSky 50 = .ok (.iastore, 1)) ∧ (decode cX3_setSky 51 = .ok (.aload_n 0, 1)) ∧ (decode cX3_setSky 52 = .ok (.getfield 9, 3)) ∧ (decode cX3_setSky 55 = .ok (.iload_n 3, 1)) ∧ (decode cX3_setSky 56 = .ok (.iaload, 1)) ∧ (decode cX3_setSky 57 = .ok (.istore_n 2, 1)) ∧ (decode cX3_setSky 58 = .ok (.iinc 3 1, 3)) := by decide +kernel
theorem kd22_6 : (decode cX3_setSky 61 = .ok (.goto (-57), 3)) ∧ (decode cX3_setSky 64 = .ok (.return_, 1)) := by decide +kernel
theorem fl_X3_17_4 : xF RX3 17 4 1 (.array (.array .int)) true := ⟨by decide, RX3, TX3, 7, tyX3, "PaperBoys$City", rfl, inlX3, tyX3_ok, nmX3, by decide, rfl, rfl, m_4_14, Or.inl rfl⟩
theorem fl_X3_20_4 : xF RX3 20 4 2 (.array .int) true := ⟨by decide, RX3, TX3, 7, tyX3, "PaperBoys$City", rfl, inlX3, tyX3_ok, nmX3, by decide, rfl, rfl, m_4_15, Or.inl rfl⟩
theorem fl_X3_23_4 : xF RX3 23 4 3 (.array .int) true := ⟨by decide, RX3, TX3, 7, tyX3, "PaperBoys$City", rfl, inlX3, tyX3_ok, nmX3, by decide, rfl, rfl, m_4_16, Or.inl rfl⟩
theorem fl_X3_26_4 : xF RX3 26 4 4 (.array (.array .int)) true := ⟨by decide, RX3, TX3, 7, tyX3, "PaperBoys$City", rfl, inlX3, tyX3_ok, nmX3, by decide, rfl, rfl, m_4_17, Or.inl rfl⟩
theorem fl_X3_35_10 : xF RX3 35 10 1 .int false := ⟨by decide, RX9, TX9, 2, tyX9, "PaperBoys$Tape", rfl, inlX9, tyX9_ok, nmX9, by decide, rfl, rfl, m_18_5, Or.inl rfl⟩
theorem fl_X3_41_10 : xF RX3 41 10 0 (.array .int) true := ⟨by decide, RX9, TX9, 2, tyX9, "PaperBoys$Tape", rfl, inlX9, tyX9_ok, nmX9, by decide, rfl, rfl, m_18_6, Or.inl rfl⟩
theorem fl_X3_9_4 : xF RX3 9 4 0 (.array .int) true := ⟨by decide, RX3, TX3, 7, tyX3, "PaperBoys$City", rfl, inlX3, tyX3_ok, nmX3, by decide, rfl, rfl, m_4_12, Or.inl rfl⟩
theorem lk_X3_44 : xLV RX3 44 yX3_askedFor cX3_askedFor 6 (some .int) 4 := ⟨m_40_3, m_21_6, m_21_7, m_3_22, m_21_8, by decide +kernel⟩
set_option maxHeartbeats 4000000 in
set_option maxRecDepth 100000 in
theorem c_X3_setSky (l : Launch) (D : va_G) (kA : Nat → ClassId) (b0 : Nat) (t0 : Nat → Nat) (S : xT) (g : xG) (a0 : Nat) (a1 : Nat) (w0 : Nat) (n0 : Int) (sk : Nat) (hs_a0 : S a0 = some (4, 0)) (hs_a1 : S a1 = some (10, 0)) (ew0 : g a1 0 = .ref w0) (hs_w0 : S w0 = some (13500, 420)) (hn0 : 0 ≤ n0 ∧ n0 ≤ 420) (en0 : g a1 1 = .int (iI n0)) (esk : g a0 0 = .ref sk) (hs_sk : S sk = some (10700, 400)) (hp0 : xwk g w0 n0) : xMt l yX3_setSky cX3_setSky 5 none 0 0 0 0 D kA b0 t0 [(10700, 0)] [.ref a0, .ref a1] S g (fun (r : Option Value) (S1 : xT) (g1 : xG) => S = S1 ∧ r = none ∧ (xSky (xv g1 sk) (xv g w0) n0 400)) := by
  refine xEnterV (by decide) (by simp [lg_sl, Value.category]) [(0, .ref a0), (1, .ref a1)] rfl ?_
  intro K E hK hret _ _ _
  refine X_iconst hK kd22_3.2.2.1 ?_
  refine X_istoren hK (i := 2) [(2, .int (iI 0)), (0, .ref a0), (1, .ref a1)] kd22_3.2.2.2.1 rfl (by decide) rfl ?_
  refine X_iconst hK kd22_3.2.2.2.2.1 ?_
  refine X_istoren hK (i := 3) [(3, .int (iI 0)), (2, .int (iI 0)), (0, .ref a0), (1, .ref a1)] kd22_3.2.2.2.2.2.1 rfl (by decide) rfl ?_
  have P66 : ∀ (nP66 : Nat) (g57 : xG) (_ : xM [(10700, 0)] S g g57) (z55 : Int) (_ : 0 ≤ z55) (_ : z55 ≤ 400) (z56 : Int) (_ : 0 ≤ z56) (_ : z56 ≤ 3) (_ : xSky (xv g57 sk) (xv g w0) n0 z55) (_ : z56 = xah (xv g w0) n0 z55) (_ : 416 - z55 < (nP66 : Int)), X K E 4 [(3, .int (iI z55)), (2, .int (iI z56)), (0, .ref a0), (1, .ref a1)] [] S g57 0 0 := by
    intro nP66
    induction nP66 with
    | zero => intro g57 hg57 z55 lz55 uz55 z56 lz56 uz56 v67 v68 mP66; exact False.elim (by omega)
    | succ nP66 ihP66 =>
      intro g57 hg57 z55 lz55 uz55 z56 lz56 uz56 v67 v68 mP66
      refine X_iloadn hK (i := 3) 0 kd22_3.2.2.2.2.2.2.1 rfl rfl ?_
      refine X_sipush hK kd22_3.2.2.2.2.2.2.2.1 (by decide) ?_
      refine X_icmp_ge hK 64 (by omega) (by omega) kd22_3.2.2.2.2.2.2.2.2.1 (by decide) (fun c69 => ?_) (fun c69 => ?_)
      · exact hret _ _ _ _ _ _ kd22_6.2 ⟨rfl, rfl, (xSky.to v67 (by omega))⟩ (Nat.le_refl _) (Nat.le_refl _)
      · refine X_iloadn hK (i := 3) 0 kd22_3.2.2.2.2.2.2.2.2.2.1 rfl rfl ?_
        refine X_aloadn hK (i := 1) 3 kd22_3.2.2.2.2.2.2.2.2.2.2.1 rfl rfl ?_
        refine X_getK hK fl_X3_35_10 hs_a1 ((hg57 a1 10 0 1 hs_a1 (by decide)).trans en0) kd22_3.2.2.2.2.2.2.2.2.2.2.2 ?_
        refine X_icmp_ge hK 28 (by omega) (by omega) kd22_4.1 (by decide) (fun c70 => ?_) (fun c70 => ?_)
        · refine X_iconst hK kd22_4.2.2.2.2.2.2.1 ?_
          refine X_istore hK (i := 4) [(4, .int (iI 3)), (3, .int (iI z55)), (2, .int (iI z56)), (0, .ref a0), (1, .ref a1)] kd22_4.2.2.2.2.2.2.2.1 (by decide) rfl ?_
          refine X_aloadn hK (i := 0) 3 kd22_4.2.2.2.2.2.2.2.2.1 rfl rfl ?_
          refine X_getK hK fl_X3_9_4 hs_a0 ((hg57 a0 4 0 0 hs_a0 (by decide)).trans esk) kd22_4.2.2.2.2.2.2.2.2.2.1 ?_
          refine X_iloadn hK (i := 3) 1 kd22_4.2.2.2.2.2.2.2.2.2.2.1 rfl rfl ?_
          refine X_iload hK (i := 4) 0 kd22_4.2.2.2.2.2.2.2.2.2.2.2 rfl ?_
          refine X_sipush hK kd22_5.1 (by decide) ?_
          refine X_icmp_ne hK 48 (by omega) (by omega) kd22_5.2.1 (by decide) (fun c71 => ?_) (fun c71 => False.elim (by omega))
          refine X_iload hK (i := 4) 0 kd22_5.2.2.2.2.1 rfl ?_
          refine X_iast hK hs_sk (by decide) (by decide) sl_10700 (by omega) (by omega) (by omega) (by omega) kd22_5.2.2.2.2.2.1 (fun g72 hg72 => ?_)
          refine X_aloadn hK (i := 0) 3 kd22_5.2.2.2.2.2.2.1 rfl rfl ?_
          refine X_getK hK fl_X3_9_4 hs_a0 ((xs_a hg72 (xne hs_a0 hs_sk (by decide))).trans ((hg57 a0 4 0 0 hs_a0 (by decide)).trans esk)) kd22_5.2.2.2.2.2.2.2.1 ?_
          refine X_iloadn hK (i := 3) 1 kd22_5.2.2.2.2.2.2.2.2.1 rfl rfl ?_
          refine X_ialdK hK hs_sk (by decide) (by omega) (by omega) (xs_s hg72) kd22_5.2.2.2.2.2.2.2.2.2.1 ?_
          refine X_istoren hK (i := 2) [(2, .int (iI 3)), (4, .int (iI 3)), (3, .int (iI z55)), (0, .ref a0), (1, .ref a1)] kd22_5.2.2.2.2.2.2.2.2.2.2.1 rfl (by decide) rfl ?_
          refine X_iinc hK (i := 3) (z := z55) (n := 1) 2 [(3, .int (iI (z55 + 1))), (2, .int (iI 3)), (4, .int (iI 3)), (0, .ref a0), (1, .ref a1)] kd22_5.2.2.2.2.2.2.2.2.2.2.2 rfl (by decide) rfl ?_
          refine X_goto hK 4 kd22_6.1 (by decide) ?_
          refine X_lv [(3, .int (iI (z55 + 1))), (2, .int (iI 3)), (0, .ref a0), (1, .ref a1)] [0, 1, 3, 4] rfl ?_
          exact ihP66  g72 (xM_ua (xM.tr xM.rf xLe.rf hg57 (by decide)) hg72 hs_sk (by decide) (by decide)) (z55 + 1) (by omega) (by omega) 3 (by omega) (by omega) (xSky.s v67 (xUp.of hg72 (by omega) (by omega)) (xsy_c (by omega) (by omega))) (xah_s (by omega) (xsy_c (by omega) (by omega))) (by omega)
        · refine X_aloadn hK (i := 1) 3 kd22_4.2.1 rfl rfl ?_
          refine X_getK hK fl_X3_41_10 hs_a1 ((hg57 a1 10 0 0 hs_a1 (by decide)).trans ew0) kd22_4.2.2.1 ?_
          refine X_iloadn hK (i := 3) 0 kd22_4.2.2.2.1 rfl rfl ?_
          refine X_iald hK hs_w0 (by decide) sl_13500 (by omega) (by omega) kd22_4.2.2.2.2.1 (fun z73 ez73 lz73 uz73 => ?_)
          have hwz73 := hp0 z55 (by omega) (by omega) z73 (by omega) (by omega) ((hg57 _ _ _ _ hs_w0 (by rw [xky_a (by decide)]; decide)).symm.trans ez73)
          have hl74 : xv g w0 z55 = z73 := xv_e (j := z55) ((hg57 _ _ _ _ hs_w0 (by rw [xky_a (by decide)]; decide)).symm.trans ez73) (by omega)
          refine X_goto hK 29 kd22_4.2.2.2.2.2.1 (by decide) ?_
          refine X_istore hK (i := 4) [(4, .int (iI z73)), (3, .int (iI z55)), (2, .int (iI z56)), (0, .ref a0), (1, .ref a1)] kd22_4.2.2.2.2.2.2.2.1 (by decide) rfl ?_
          refine X_aloadn hK (i := 0) 3 kd22_4.2.2.2.2.2.2.2.2.1 rfl rfl ?_
          refine X_getK hK fl_X3_9_4 hs_a0 ((hg57 a0 4 0 0 hs_a0 (by decide)).trans esk) kd22_4.2.2.2.2.2.2.2.2.2.1 ?_
          refine X_iloadn hK (i := 3) 1 kd22_4.2.2.2.2.2.2.2.2.2.2.1 rfl rfl ?_
          refine X_iload hK (i := 4) 0 kd22_4.2.2.2.2.2.2.2.2.2.2.2 rfl ?_
          refine X_sipush hK kd22_5.1 (by decide) ?_
          refine X_icmp_ne hK 48 (by omega) (by omega) kd22_5.2.1 (by decide) (fun c75 => ?_) (fun c75 => ?_)
          · refine X_iload hK (i := 4) 0 kd22_5.2.2.2.2.1 rfl ?_
            refine X_iast hK hs_sk (by decide) (by decide) sl_10700 (by omega) (by omega) (by omega) (by omega) kd22_5.2.2.2.2.2.1 (fun g76 hg76 => ?_)
            refine X_aloadn hK (i := 0) 3 kd22_5.2.2.2.2.2.2.1 rfl rfl ?_
            refine X_getK hK fl_X3_9_4 hs_a0 ((xs_a hg76 (xne hs_a0 hs_sk (by decide))).trans ((hg57 a0 4 0 0 hs_a0 (by decide)).trans esk)) kd22_5.2.2.2.2.2.2.2.1 ?_
            refine X_iloadn hK (i := 3) 1 kd22_5.2.2.2.2.2.2.2.2.1 rfl rfl ?_
            refine X_ialdK hK hs_sk (by decide) (by omega) (by omega) (xs_s hg76) kd22_5.2.2.2.2.2.2.2.2.2.1 ?_
            refine X_istoren hK (i := 2) [(2, .int (iI z73)), (4, .int (iI z73)), (3, .int (iI z55)), (0, .ref a0), (1, .ref a1)] kd22_5.2.2.2.2.2.2.2.2.2.2.1 rfl (by decide) rfl ?_
            refine X_iinc hK (i := 3) (z := z55) (n := 1) 2 [(3, .int (iI (z55 + 1))), (2, .int (iI z73)), (4, .int (iI z73)), (0, .ref a0), (1, .ref a1)] kd22_5.2.2.2.2.2.2.2.2.2.2.2 rfl (by decide) rfl ?_
            refine X_goto hK 4 kd22_6.1 (by decide) ?_
            refine X_lv [(3, .int (iI (z55 + 1))), (2, .int (iI z73)), (0, .ref a0), (1, .ref a1)] [0, 1, 3, 4] rfl ?_
            exact ihP66  g76 (xM_ua (xM.tr xM.rf xLe.rf hg57 (by decide)) hg76 hs_sk (by decide) (by decide)) (z55 + 1) (by omega) (by omega) z73 (by omega) (by omega) (xSky.s v67 (xUp.of hg76 (by omega) (by omega)) (by first | exact xsy_a (by omega) (by omega) hl74 (by omega) | exact xsy_b (by omega) (by omega) hl74 (by omega) v68)) (xah_s (by omega) (by first | exact xsy_a (by omega) (by omega) hl74 (by omega) | exact xsy_b (by omega) (by omega) hl74 (by omega) v68)) (by omega)
          · refine X_iloadn hK (i := 2) 2 kd22_5.2.2.1 rfl rfl ?_
            refine X_goto hK 50 kd22_5.2.2.2.1 (by decide) ?_
            refine X_iast hK hs_sk (by decide) (by decide) sl_10700 (by omega) (by omega) (by omega) (by omega) kd22_5.2.2.2.2.2.1 (fun g77 hg77 => ?_)
            refine X_aloadn hK (i := 0) 3 kd22_5.2.2.2.2.2.2.1 rfl rfl ?_
            refine X_getK hK fl_X3_9_4 hs_a0 ((xs_a hg77 (xne hs_a0 hs_sk (by decide))).trans ((hg57 a0 4 0 0 hs_a0 (by decide)).trans esk)) kd22_5.2.2.2.2.2.2.2.1 ?_
            refine X_iloadn hK (i := 3) 1 kd22_5.2.2.2.2.2.2.2.2.1 rfl rfl ?_
            refine X_ialdK hK hs_sk (by decide) (by omega) (by omega) (xs_s hg77) kd22_5.2.2.2.2.2.2.2.2.2.1 ?_
            refine X_istoren hK (i := 2) [(2, .int (iI z56)), (4, .int (iI z73)), (3, .int (iI z55)), (0, .ref a0), (1, .ref a1)] kd22_5.2.2.2.2.2.2.2.2.2.2.1 rfl (by decide) rfl ?_
            refine X_iinc hK (i := 3) (z := z55) (n := 1) 2 [(3, .int (iI (z55 + 1))), (2, .int (iI z56)), (4, .int (iI z73)), (0, .ref a0), (1, .ref a1)] kd22_5.2.2.2.2.2.2.2.2.2.2.2 rfl (by decide) rfl ?_
            refine X_goto hK 4 kd22_6.1 (by decide) ?_
            refine X_lv [(3, .int (iI (z55 + 1))), (2, .int (iI z56)), (0, .ref a0), (1, .ref a1)] [0, 1, 3, 4] rfl ?_
            exact ihP66  g77 (xM_ua (xM.tr xM.rf xLe.rf hg57 (by decide)) hg77 hs_sk (by decide) (by decide)) (z55 + 1) (by omega) (by omega) z56 (by omega) (by omega) (xSky.s v67 (xUp.of hg77 (by omega) (by omega)) (by first | exact xsy_a (by omega) (by omega) hl74 (by omega) | exact xsy_b (by omega) (by omega) hl74 (by omega) v68)) (xah_s (by omega) (by first | exact xsy_a (by omega) (by omega) hl74 (by omega) | exact xsy_b (by omega) (by omega) hl74 (by omega) v68)) (by omega)
  exact P66 ((416 - 0 : Int).toNat + 1) g xM.rf 0 (by omega) (by omega) 0 (by omega) (by omega) xSky.z xah_0 (by omega)

set_option maxHeartbeats 4000000 in
set_option maxRecDepth 100000 in
theorem c_X3_askedFor (l : Launch) (D : va_G) (kA : Nat → ClassId) (b0 : Nat) (t0 : Nat → Nat) (S : xT) (g : xG) (a0 : Nat) (x1 : Int) (x2 : Int) (x3 : Int) (x4 : Int) (wg : Nat) (wt : Nat) (ld : Nat) (hs_a0 : S a0 = some (4, 0)) (hx1 : 0 ≤ x1 ∧ x1 ≤ 9) (hx2 : 0 ≤ x2 ∧ x2 ≤ 3) (hx3 : 0 ≤ x3 ∧ x3 ≤ 3) (hx4 : 0 ≤ x4 ∧ x4 ≤ 5) (ewg : g a0 4 = .ref wg) (hs_wg : S wg = some (11304, 10)) (ewt : g a0 2 = .ref wt) (hs_wt : S wt = some (11000, 4)) (eld : g a0 3 = .ref ld) (hs_ld : S ld = some (11100, 6)) : xMt l yX3_askedFor cX3_askedFor 6 (some .int) 0 0 0 0 D kA b0 t0 [] [.ref a0, .int (iI x1), .int (iI x2), .int (iI x3), .int (iI x4)] S g (fun (r : Option Value) (S1 : xT) (g1 : xG) => S = S1 ∧ g = g1 ∧ ∃ z : Int, r = some (.int (iI z)) ∧ 0 ≤ z ∧ z ≤ 3600 ∧ (∃ w : Nat, g wg x1.toNat = .ref w ∧ z = xas (xv g w x2) (xv g wt x3) (xv g ld x4))) := by
  refine xEnterI (by decide) (by simp [lg_sl, Value.category]) [(0, .ref a0), (1, .int (iI x1)), (2, .int (iI x2)), (3, .int (iI x3)), (4, .int (iI x4))] rfl ?_
  intro K E hK hret _ _ _
  refine X_aloadn hK (i := 0) 0 kd22_0.1 rfl rfl ?_
  refine X_getK hK fl_X3_26_4 hs_a0 ewg kd22_0.2.1 ?_
  refine X_iloadn hK (i := 1) 1 kd22_0.2.2.1 rfl rfl ?_
  refine X_aald hK 11200 4 hs_wg (by decide) sl_11304 (by omega) (by omega) kd22_0.2.2.2.1 (fun b1 eb1 hs_b1 => ?_)
  refine X_iloadn hK (i := 2) 2 kd22_0.2.2.2.2.1 rfl rfl ?_
  refine X_iald hK hs_b1 (by decide) sl_11200 (by omega) (by omega) kd22_0.2.2.2.2.2.1 (fun z2 ez2 lz2 uz2 => ?_)
  have hw3 : xv g b1 x2 = z2 := xv_e (j := x2) ez2 (by omega)
  refine X_aloadn hK (i := 0) 0 kd22_0.2.2.2.2.2.2.1 rfl rfl ?_
  refine X_getK hK fl_X3_20_4 hs_a0 ewt kd22_0.2.2.2.2.2.2.2.1 ?_
  refine X_iloadn hK (i := 3) 3 kd22_0.2.2.2.2.2.2.2.2.1 rfl rfl ?_
  refine X_iald hK hs_wt (by decide) sl_11000 (by omega) (by omega) kd22_0.2.2.2.2.2.2.2.2.2.1 (fun z4 ez4 lz4 uz4 => ?_)
  have hw5 : xv g wt x3 = z4 := xv_e (j := x3) ez4 (by omega)
  refine X_imul hK kd22_0.2.2.2.2.2.2.2.2.2.2.1 ?_
  have hm6 := xmulB (a := z2) (b := z4) (A := 400) (B := 300) (by omega) (by omega) (by omega) (by omega)
  refine X_bipush hK kd22_0.2.2.2.2.2.2.2.2.2.2.2 (by decide) ?_
  refine X_idiv hK (by omega) (by omega) kd22_1.1 (fun z7 ez7 fz7 => ?_)
  have bz7 : 0 ≤ z7 ∧ z7 ≤ 1200 := by omega
  have hd8 : z7 = (z2 * z4) / 100 := by omega
  refine X_istore hK (i := 5) [(5, .int (iI z7)), (0, .ref a0), (1, .int (iI x1)), (2, .int (iI x2)), (3, .int (iI x3)), (4, .int (iI x4))] kd22_1.2.1 (by decide) rfl ?_
  refine X_iload hK (i := 5) 0 kd22_1.2.2.1 rfl ?_
  refine X_aloadn hK (i := 0) 1 kd22_1.2.2.2.1 rfl rfl ?_
  refine X_getK hK fl_X3_23_4 hs_a0 eld kd22_1.2.2.2.2.1 ?_
  refine X_iload hK (i := 4) 5 kd22_1.2.2.2.2.2.1 rfl ?_
  refine X_iald hK hs_ld (by decide) sl_11100 (by omega) (by omega) kd22_1.2.2.2.2.2.2.1 (fun z9 ez9 lz9 uz9 => ?_)
  have hw10 : xv g ld x4 = z9 := xv_e (j := x4) ez9 (by omega)
  refine X_imul hK kd22_1.2.2.2.2.2.2.2.1 ?_
  have hm11 := xmulB (a := z7) (b := z9) (A := 1200) (B := 300) (by omega) (by omega) (by omega) (by omega)
  refine X_bipush hK kd22_1.2.2.2.2.2.2.2.2.1 (by decide) ?_
  refine X_idiv hK (by omega) (by omega) kd22_1.2.2.2.2.2.2.2.2.2.1 (fun z12 ez12 fz12 => ?_)
  have bz12 : 0 ≤ z12 ∧ z12 ≤ 3600 := by omega
  have hd13 : z12 = (z7 * z9) / 100 := by omega
  exact hret _ _ _ _ _ _ _ kd22_1.2.2.2.2.2.2.2.2.2.2.1 ⟨rfl, rfl, z12, rfl, (by omega), (by omega), ⟨b1, eb1, (by unfold xas; rw [hw3, hw5, hw10, ← hd8]; exact hd13)⟩⟩ (Nat.le_refl _) (Nat.le_refl _)

set_option maxHeartbeats 4000000 in
set_option maxRecDepth 100000 in
theorem c_X3_askedOn (l : Launch) (D : va_G) (kA : Nat → ClassId) (b0 : Nat) (t0 : Nat → Nat) (S : xT) (g : xG) (a0 : Nat) (x1 : Int) (x2 : Int) (x3 : Int) (hs_a0 : S a0 = some (4, 0)) (hx1 : 0 ≤ x1 ∧ x1 ≤ 399) (hx2 : 0 ≤ x2 ∧ x2 ≤ 9) (hx3 : 0 ≤ x3 ∧ x3 ≤ 3) : xMt l yX3_askedOn cX3_askedOn 4 (some .int) 1 0 0 25 D kA b0 t0 [] [.ref a0, .int (iI x1), .int (iI x2), .int (iI x3)] S g (fun (r : Option Value) (S1 : xT) (g1 : xG) => S = S1 ∧ g = g1 ∧ ∃ z : Int, r = some (.int (iI z)) ∧ 0 ≤ z ∧ z ≤ 3600) := by
  refine xEnterI (by decide) (by simp [lg_sl, Value.category]) [(0, .ref a0), (1, .int (iI x1)), (2, .int (iI x2)), (3, .int (iI x3))] rfl ?_
  intro K E hK hret _ _ _
  refine X_aloadn hK (i := 0) 0 kd22_1.2.2.2.2.2.2.2.2.2.2.2 rfl rfl ?_
  refine X_iloadn hK (i := 2) 2 kd22_2.1 rfl rfl ?_
  refine X_iloadn hK (i := 3) 3 kd22_2.2.1 rfl rfl ?_
  refine X_aloadn hK (i := 0) 0 kd22_2.2.2.1 rfl rfl ?_
  refine X_getr hK 10700 400 fl_X3_9_4 hs_a0 sl_4_0 kd22_2.2.2.2.1 (fun b1 eb1 hs_b1 => ?_)
  refine X_iloadn hK (i := 1) 1 kd22_2.2.2.2.2.1 rfl rfl ?_
  refine X_iald hK hs_b1 (by decide) sl_10700 (by omega) (by omega) kd22_2.2.2.2.2.2.1 (fun z2 ez2 lz2 uz2 => ?_)
  refine X_aloadn hK (i := 0) 0 kd22_2.2.2.2.2.2.2.1 rfl rfl ?_
  refine X_getr hK 10904 4 fl_X3_17_4 hs_a0 sl_4_1 kd22_2.2.2.2.2.2.2.2.1 (fun b3 eb3 hs_b3 => ?_)
  refine X_iloadn hK (i := 3) 3 kd22_2.2.2.2.2.2.2.2.2.1 rfl rfl ?_
  refine X_aald hK 10800 400 hs_b3 (by decide) sl_10904 (by omega) (by omega) kd22_2.2.2.2.2.2.2.2.2.2.1 (fun b4 eb4 hs_b4 => ?_)
  refine X_iloadn hK (i := 1) 1 kd22_2.2.2.2.2.2.2.2.2.2.2.1 rfl rfl ?_
  refine X_iald hK hs_b4 (by decide) sl_10800 (by omega) (by omega) kd22_2.2.2.2.2.2.2.2.2.2.2.2 (fun z5 ez5 lz5 uz5 => ?_)
  refine X_knowr 11304 10 hs_a0 (by decide) sl_4_4 (fun b6 eb6 hs_b6 => ?_)
  refine X_knowr 11000 4 hs_a0 (by decide) sl_4_2 (fun b7 eb7 hs_b7 => ?_)
  refine X_knowr 11100 6 hs_a0 (by decide) sl_4_3 (fun b8 eb8 hs_b8 => ?_)
  refine X_callV hK [.int (iI x2), .int (iI x3), .int (iI z2), .int (iI z5)] [] lk_X3_44 (c_X3_askedFor _ _ _ _ _ S g a0 x2 x3 z2 z5 b6 b7 b8 hs_a0 (by omega) (by omega) (by omega) (by omega) eb6 hs_b6 eb7 hs_b7 eb8 hs_b8) hs_a0 ⟨by decide, rfl⟩ kd22_3.1 rfl rfl (by simp [Value.category]) (by decide) (by decide) (by decide) (by decide) (fun r9 S11 g10 pr9 qr9 hg10 => ?_)
  obtain ⟨rfl, rfl, z12, rfl, lz12, uz12, k13⟩ := pr9
  refine X_st [.int (iI z12)] rfl ?_
  exact hret _ _ _ _ _ _ _ kd22_3.2.1 ⟨rfl, rfl, z12, rfl, (by omega), (by omega)⟩ (Nat.le_refl _) (Nat.le_refl _)
