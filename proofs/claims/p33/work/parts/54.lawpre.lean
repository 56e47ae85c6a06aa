theorem m_41_12 : Cond.methodLink RL 103 yL_of ∈ wsL_law := ch_41 _ (List.mem_of_getElem? (i := 12) rfl)
theorem m_41_13 : Cond.static yL_of ∈ wsL_law := ch_41 _ (List.mem_of_getElem? (i := 13) rfl)
theorem m_42_11 : Cond.methodLink RL 109 yL_coin ∈ wsL_law := ch_42 _ (List.mem_of_getElem? (i := 11) rfl)
theorem m_42_12 : Cond.static yL_coin ∈ wsL_law := ch_42 _ (List.mem_of_getElem? (i := 12) rfl)
set_option maxRecDepth 20000 in
theorem wsL_law_x0 : ∀ w ∈ (atY.filter vx_no).filter goodWord, w ∈ lw_tbl := by decide +kernel
theorem wy_in : ∀ w ∈ wsY, w ∈ lw_tbl := List.forall_mem_append.mpr ⟨wl_in, wsL_law_x0⟩
set_option maxRecDepth 20000 in
theorem gl_L_of : GoodIn lw_tbl (va_wsS RL 103 yL_of (Cond.codeWith yL_of cL_of 5 (some .int) [(0, 10, 13, 13)] :: wsY)) := by
  intro w hw
  unfold va_wsS at hw
  rcases List.mem_append.mp hw with h | h
  · simp only [List.mem_cons, List.not_mem_nil, or_false] at h
    rcases h with rfl | rfl | rfl
    · exact ⟨wl_in _ m_41_12, good_of_word (by decide +kernel)⟩
    · exact ⟨wl_in _ m_41_13, good_of_word (by decide +kernel)⟩
    · exact ⟨tb_1 _ (List.mem_of_getElem? (i := 0) rfl), good_of_word (by decide +kernel)⟩
  · rcases List.mem_cons.mp h with rfl | h
    · exact ⟨tb_5 _ (List.mem_of_getElem? (i := 190) rfl), good_of_word (by decide +kernel)⟩
    · exact ⟨wy_in w h, good_of_word (wy_good w h)⟩
set_option maxRecDepth 20000 in
theorem gl_L_coin : GoodIn lw_tbl (va_wsS RL 109 yL_coin (Cond.codeWith yL_coin cL_coin 4 (some .int) [(0, 9, 12, 13)] :: wsY)) := by
  intro w hw
  unfold va_wsS at hw
  rcases List.mem_append.mp hw with h | h
  · simp only [List.mem_cons, List.not_mem_nil, or_false] at h
    rcases h with rfl | rfl | rfl
    · exact ⟨wl_in _ m_42_11, good_of_word (by decide +kernel)⟩
    · exact ⟨wl_in _ m_42_12, good_of_word (by decide +kernel)⟩
    · exact ⟨tb_1 _ (List.mem_of_getElem? (i := 0) rfl), good_of_word (by decide +kernel)⟩
  · rcases List.mem_cons.mp h with rfl | h
    · exact ⟨tb_6 _ (List.mem_of_getElem? (i := 24) rfl), good_of_word (by decide +kernel)⟩
    · exact ⟨wy_in w h, good_of_word (wy_good w h)⟩
set_option maxRecDepth 20000 in
theorem law_tsr {args : Array Value} {s : State} (hts : ∀ w ∈ lw_tbl, w.before args s = true) (hgv : (Jvm.Cond.and given_1 narrow_1).before args s = true) : tsr (fun q : Nat => s.heap.size ≤ q) s s.heap ∧ xP3 s := by
  have hs := flat_of_before _ hgv
  have hA : ∀ a : Nat, a < s.heap.size → ¬ (fun q : Nat => s.heap.size ≤ q) a := fun a h q => absurd q (Nat.not_le.mpr h)
  refine ⟨⟨⟨va_Nw.of rfl (hts _ (tb_5 _ (List.mem_of_getElem? (i := 198) rfl))), va_Nw.of rfl (hts _ (tb_5 _ (List.mem_of_getElem? (i := 200) rfl))), va_Nw.of rfl (hts _ (tb_5 _ (List.mem_of_getElem? (i := 202) rfl))), va_Nw.of rfl (hts _ (tb_5 _ (List.mem_of_getElem? (i := 204) rfl)))⟩, ?_, ?_, vx_Zqof (hts _ (tb_5 _ (List.mem_of_getElem? (i := 223) rfl))) (hts (Cond.initialized "java/lang/Throwable") (tb_1 _ (List.mem_of_getElem? (i := 26) rfl))) (hs _ (by decide +kernel)) hA, vx_Zqof (hts _ (tb_5 _ (List.mem_of_getElem? (i := 225) rfl))) (hts (Cond.initialized "java/lang/Throwable") (tb_1 _ (List.mem_of_getElem? (i := 26) rfl))) (hs _ (by decide +kernel)) hA⟩, ?_⟩
  · obtain ⟨a, _, _, _, h, -⟩ := Cond.exactly_spec (hs (Cond.exactly (.string "PaperBoys" 254) "java/lang/String") (by decide +kernel))
    exact ⟨a, vk_R.of (hts _ (tb_5 _ (List.mem_of_getElem? (i := 235) rfl))) h⟩
  · obtain ⟨a, _, _, _, h, -⟩ := Cond.exactly_spec (hs (Cond.exactly (.string "PaperBoys" 273) "java/lang/String") (by decide +kernel))
    exact ⟨a, vk_R.of (hts _ (tb_6 _ (List.mem_of_getElem? (i := 29) rfl))) h⟩
  · obtain ⟨a, _, _, _, h, -⟩ := Cond.exactly_spec (hs (Cond.exactly (.string "PaperBoys" 271) "java/lang/String") (by decide +kernel))
    exact ⟨a, vk_R.of (hts _ (tb_6 _ (List.mem_of_getElem? (i := 21) rfl))) h⟩
set_option maxRecDepth 20000 in
theorem law_nst {args : Array Value} {s : State} (hts : ∀ w ∈ lw_tbl, w.before args s = true) : nst s := ⟨List.forall_mem_cons.mpr ⟨va_Nw.of rfl (hts _ (tb_1 _ (List.mem_of_getElem? (i := 41) rfl))), List.forall_mem_cons.mpr ⟨va_Nw.of rfl (hts _ (tb_1 _ (List.mem_of_getElem? (i := 63) rfl))), List.forall_mem_cons.mpr ⟨va_Nw.of rfl (hts _ (tb_1 _ (List.mem_of_getElem? (i := 168) rfl))), List.forall_mem_cons.mpr ⟨va_Nw.of rfl (hts _ (tb_1 _ (List.mem_of_getElem? (i := 190) rfl))), List.forall_mem_cons.mpr ⟨va_Nw.of rfl (hts _ (tb_1 _ (List.mem_of_getElem? (i := 225) rfl))), List.forall_mem_cons.mpr ⟨va_Nw.of rfl (hts _ (tb_2 _ (List.mem_of_getElem? (i := 15) rfl))), List.forall_mem_cons.mpr ⟨va_Nw.of rfl (hts _ (tb_2 _ (List.mem_of_getElem? (i := 35) rfl))), List.forall_mem_cons.mpr ⟨va_Nw.of rfl (hts _ (tb_2 _ (List.mem_of_getElem? (i := 62) rfl))), fun _ h => absurd h List.not_mem_nil⟩⟩⟩⟩⟩⟩⟩⟩, hts (Cond.arrayOver (.array .int)) (tb_1 _ (List.mem_of_getElem? (i := 74) rfl)), hts (Cond.arrayOver (.object "java/lang/Object")) (tb_3 _ (List.mem_of_getElem? (i := 30) rfl)), va_Nw.of rfl (hts (Cond.castable RX0 "java/lang/Object") (tb_8 _ (List.mem_of_getElem? (i := 195) rfl))), va_Nw.of rfl (hts (Cond.castable RX10 "java/lang/Object") (tb_8 _ (List.mem_of_getElem? (i := 189) rfl)))⟩