theorem m_10_9 : Cond.fieldLink RX12 177 "PaperBoysModel" "need" "[I" ∈ wsL_law := ch_10 _ (List.mem_of_getElem? (i := 9) rfl)
theorem m_10_10 : Cond.fieldLink RX12 180 "PaperBoysModel" "stop" "[I" ∈ wsL_law := ch_10 _ (List.mem_of_getElem? (i := 10) rfl)
theorem m_10_12 : Cond.fieldLink RX12 186 "PaperBoysModel" "tryWay" "[I" ∈ wsL_law := ch_10 _ (List.mem_of_getElem? (i := 12) rfl)
theorem m_10_13 : Cond.fieldLink RX12 189 "PaperBoysModel" "tryAt" "[I" ∈ wsL_law := ch_10 _ (List.mem_of_getElem? (i := 13) rfl)
theorem m_53_18 : Cond.methodLink RX11 339 yX8_drive ∈ wsL_law := ch_53 _ (List.mem_of_getElem? (i := 18) rfl)
theorem m_53_19 : Cond.instanceMethod yX8_drive ∈ wsL_law := ch_53 _ (List.mem_of_getElem? (i := 19) rfl)
theorem m_53_20 : Cond.selects RX8 yX8_drive yX8_drive ∈ wsL_law := ch_53 _ (List.mem_of_getElem? (i := 20) rfl)
theorem m_53_21 : Cond.code yX8_drive cX8_drive 4 (some .int) ∈ wsL_law := ch_53 _ (List.mem_of_getElem? (i := 21) rfl)
theorem m_55_22 : Cond.methodLink RX12 471 yX12_comesAt ∈ wsL_law := ch_55 _ (List.mem_of_getElem? (i := 22) rfl)
theorem m_55_23 : Cond.instanceMethod yX12_comesAt ∈ wsL_law := ch_55 _ (List.mem_of_getElem? (i := 23) rfl)
theorem m_56_0 : Cond.selects RX12 yX12_comesAt yX12_comesAt ∈ wsL_law := ch_56 _ (List.mem_of_getElem? (i := 0) rfl)
theorem m_56_1 : Cond.code yX12_comesAt cX12_comesAt 3 (some .int) ∈ wsL_law := ch_56 _ (List.mem_of_getElem? (i := 1) rfl)
theorem kd48_0 : (decode cX11_truck 0 = .ok (.aload_n 0, 1)) ∧ (decode cX11_truck 1 = .ok (.getfield 10, 3)) ∧ (decode cX11_truck 4 = .ok (.getfield 102, 3)) ∧ (decode cX11_truck 7 = .ok (.bipush 20, 2)) ∧ (decode cX11_truck 9 = .ok (.if_icmp .ne 21, 3)) ∧ (decode cX11_truck 12 = .ok (.aload_n 0, 1)) ∧ (decode cX11_truck 13 = .ok (.getfield 69, 3)) ∧ (decode cX11_truck 16 = .ok (.aload_n 0, 1)) ∧ (decode cX11_truck 17 = .ok (.getfield 27, 3)) ∧ (decode cX11_truck 20 = .ok (.aload_n 0, 1)) ∧ (decode cX11_truck 21 = .ok (.getfield 10, 3)) ∧ (decode cX11_truck 24 = .ok (.invokevirtual 339, 3)) := by decide +kernel
theorem kd48_1 : (decode cX11_truck 27 = .ok (.goto 4, 3)) ∧ (decode cX11_truck 30 = .ok (.iconst (-1), 1)) ∧ (decode cX11_truck 31 = .ok (.istore_n 1, 1)) ∧ (decode cX11_truck 32 = .ok (.aload_n 0, 1)) ∧ (decode cX11_truck 33 = .ok (.getfield 10, 3)) ∧ (decode cX11_truck 36 = .ok (.iconst 0, 1)) ∧ (decode cX11_truck 37 = .ok (.putfield 102, 3)) ∧ (decode cX11_truck 40 = .ok (.iload_n 1, 1)) ∧ (decode cX11_truck 41 = .ok (.ireturn, 1)) ∧ (decode cX12_comesAt 0 = .ok (.iload_n 1, 1)) ∧ (decode cX12_comesAt 1 = .ok (.ifCond .ne 7, 3)) ∧ (decode cX12_comesAt 4 = .ok (.iconst 0, 1)) := by decide +kernel
theorem kd48_2 : (decode cX12_comesAt 5 = .ok (.goto 11, 3)) ∧ (decode cX12_comesAt 8 = .ok (.aload_n 0, 1)) ∧ (decode cX12_comesAt 9 = .ok (.getfield 189, 3)) ∧ (decode cX12_comesAt 12 = .ok (.iload_n 1, 1)) ∧ (decode cX12_comesAt 13 = .ok (.iconst 1, 1)) ∧ (decode cX12_comesAt 14 = .ok (.isub, 1)) ∧ (decode cX12_comesAt 15 = .ok (.iaload, 1)) ∧ (decode cX12_comesAt 16 = .ok (.aload_n 0, 1)) ∧ (decode cX12_comesAt 17 = .ok (.getfield 47, 3)) ∧ (decode cX12_comesAt 20 = .ok (.bipush 10, 2)) ∧ (decode cX12_comesAt 22 = .ok (.iload_n 1, 1)) ∧ (decode cX12_comesAt 23 = .ok (.ifCond .ne 7, 3)) := by decide +kernel
theorem kd48_3 : (decode cX12_comesAt 26 = .ok (.iconst 0, 1)) ∧ (decode cX12_comesAt 27 = .ok (.goto 16, 3)) ∧ (decode cX12_comesAt 30 = .ok (.aload_n 0, 1)) ∧ (decode cX12_comesAt 31 = .ok (.getfield 180, 3)) ∧ (decode cX12_comesAt 34 = .ok (.aload_n 0, 1)) ∧ (decode cX12_comesAt 35 = .ok (.getfield 186, 3)) ∧ (decode cX12_comesAt 38 = .ok (.iload_n 1, 1)) ∧ (decode cX12_comesAt 39 = .ok (.iconst 1, 1)) ∧ (decode cX12_comesAt 40 = .ok (.isub, 1)) ∧ (decode cX12_comesAt 41 = .ok (.iaload, 1)) ∧ (decode cX12_comesAt 42 = .ok (.iaload, 1)) ∧ (decode cX12_comesAt 43 = .ok (.imul, 1)) := by decide +kernel
theorem kd48_4 : (decode cX12_comesAt 44 = .ok (.aload_n 0, 1)) ∧ (decode cX12_comesAt 45 = .ok (.getfield 180, 3)) ∧ (decode cX12_comesAt 48 = .ok (.iload_n 2, 1)) ∧ (decode cX12_comesAt 49 = .ok (.iaload, 1)) ∧ (decode cX12_comesAt 50 = .ok (.iadd, 1)) ∧ (decode cX12_comesAt 51 = .ok (.iaload, 1)) ∧ (decode cX12_comesAt 52 = .ok (.iadd, 1)) ∧ (decode cX12_comesAt 53 = .ok (.ireturn, 1)) ∧ (decode cX12_mayGo 0 = .ok (.iload_n 3, 1)) ∧ (decode cX12_mayGo 1 = .ok (.iload_n 2, 1)) ∧ (decode cX12_mayGo 2 = .ok (.ishr, 1)) ∧ (decode cX12_mayGo 3 = .ok (.iconst 1, 1)) := by decide +kernel
theorem kd48_5 : (decode cX12_mayGo 4 = .ok (.iand, 1)) ∧ (decode cX12_mayGo 5 = .ok (.iconst 1, 1)) ∧ (decode cX12_mayGo 6 = .ok (.if_icmp .ne 5, 3)) ∧ (decode cX12_mayGo 9 = .ok (.iconst 0, 1)) ∧ (decode cX12_mayGo 10 = .ok (.ireturn, 1)) ∧ (decode cX12_mayGo 11 = .ok (.aload_n 0, 1)) ∧ (decode cX12_mayGo 12 = .ok (.iload_n 1, 1)) ∧ (decode cX12_mayGo 13 = .ok (.iload_n 2, 1)) ∧ (decode cX12_mayGo 14 = .ok (.invokevirtual 471, 3)) ∧ (decode cX12_mayGo 17 = .ok (.istore 5, 2)) ∧ (decode cX12_mayGo 19 = .ok (.iload 5, 2)) ∧ (decode cX12_mayGo 21 = .ok (.aload_n 0, 1)) := by decide +kernel
theorem kd48_6 : (decode cX12_mayGo 22 = .ok (.getfield 177, 3)) ∧ (decode cX12_mayGo 25 = .ok (.aload_n 0, 1)) ∧ (decode cX12_mayGo 26 = .ok (.getfield 180, 3)) ∧ (decode cX12_mayGo 29 = .ok (.iload_n 2, 1)) ∧ (decode cX12_mayGo 30 = .ok (.iaload, 1)) ∧ (decode cX12_mayGo 31 = .ok (.iaload, 1)) ∧ (decode cX12_mayGo 32 = .ok (.if_icmp .gt 14, 3)) ∧ (decode cX12_mayGo 35 = .ok (.iload 5, 2)) ∧ (decode cX12_mayGo 37 = .ok (.iload 4, 2)) ∧ (decode cX12_mayGo 39 = .ok (.if_icmp .ge 7, 3)) ∧ (decode cX12_mayGo 42 = .ok (.iconst 1, 1)) ∧ (decode cX12_mayGo 43 = .ok (.goto 4, 3)) := by decide +kernel
theorem kd48_7 : (decode cX12_mayGo 46 = .ok (.iconst 0, 1)) ∧ (decode cX12_mayGo 47 = .ok (.ireturn, 1)) := by decide +kernel
theorem fl_X12_177_13 : xF RX12 177 13 82 (.array .int) true := ⟨by decide, RX12, TX12, 91, tyX12, "PaperBoysModel", rfl, inlX12, tyX12_ok, nmX12, by decide, rfl, rfl, m_10_9, Or.inl rfl⟩
theorem fl_X12_180_13 : xF RX12 180 13 83 (.array .int) true := ⟨by decide, RX12, TX12, 91, tyX12, "PaperBoysModel", rfl, inlX12, tyX12_ok, nmX12, by decide, rfl, rfl, m_10_10, Or.inl rfl⟩
theorem fl_X12_186_13 : xF RX12 186 13 85 (.array .int) true := ⟨by decide, RX12, TX12, 91, tyX12, "PaperBoysModel", rfl, inlX12, tyX12_ok, nmX12, by decide, rfl, rfl, m_10_12, Or.inl rfl⟩
theorem fl_X12_189_13 : xF RX12 189 13 86 (.array .int) true := ⟨by decide, RX12, TX12, 91, tyX12, "PaperBoysModel", rfl, inlX12, tyX12_ok, nmX12, by decide, rfl, rfl, m_10_13, Or.inl rfl⟩
theorem lk_X11_339 : xLV RX11 339 yX8_drive cX8_drive 4 (some .int) 2 := ⟨m_53_18, m_53_19, m_53_20, m_2_22, m_53_21, by decide +kernel⟩
theorem lk_X12_471 : xLV RX12 471 yX12_comesAt cX12_comesAt 3 (some .int) 2 := ⟨m_55_22, m_55_23, m_56_0, m_1_5, m_56_1, by decide +kernel⟩
theorem xEx.had {n e k i : Int} {F B c y : Int → Int} {W : Int → Int → Int} (h : xEx n F W B (xAx k i y) e c) (hk : 0 ≤ k ∧ k < n) (why : ∃ x, 0 ≤ x ∧ x < k ∧ y x = i) : xEx n F W B (xAx k (i + 1) y) e c := h.skip hk.1 (fun t ht ag et => by
  obtain ⟨x, x1, x2, x3⟩ := why
  exact absurd (show t x = t k by rw [ag x x1 x2, x3, et]) (ht.1.2.2 x k x1 (by omega) hk.1 (by omega) (by omega)))
def xTqd (n : Int) (T tw c : Int → Int) (e : Int) : Prop := e ≠ 100000 → ∀ x, 0 ≤ x → x < n → tw x = T (c x)
def xRi (n : Int) (F : Int → Int) (W : Int → Int → Int) (B T : Int → Int) (k i e : Int) (y ta tw : Int → Int) : Prop := xFz n F W B y k.toNat ∧ (∀ x, 0 ≤ x → x < k → ta x = xar F W y x.toNat) ∧ ∃ c, xEx n F W B (xAx k i y) e c ∧ xTqd n T tw c e
def xRk (n : Int) (F : Int → Int) (W : Int → Int → Int) (B T : Int → Int) (k had e : Int) (y ta tw : Int → Int) : Prop := (0 ≤ k → (-1 ≤ y k ∧ y k < n) ∧ had = ((xmn y k.toNat : Nat) : Int) + (if y k = -1 then 0 else ((2 ^ (y k).toNat : Nat) : Int)) ∧ (y k ≠ -1 → xtc (xmn y k.toNat) (y k).toNat = 0) ∧ xRi n F W B T k (y k + 1) e y ta tw) ∧ (k = -1 → ∃ c, xEx n F W B (fun _ => True) e c ∧ xTqd n T tw c e)
section XRK
variable {n e k i z : Int} {F B T y y' ta ta' tw tw' : Int → Int} {W : Int → Int → Int}
theorem xRk.ini (hn : 1 ≤ n) (e0 : y 0 = -1) : xRk n F W B T 0 0 100000 y ta tw := by
  refine ⟨fun _ => ⟨by omega, by rw [if_pos e0]; rfl, fun q => absurd e0 q, ⟨⟨by show ((0 : Nat) : Int) ≤ n; omega, fun k q1 q2 => by have : k < 0 := q2; omega, fun i j q1 q2 => by have : i < 0 := q2; omega⟩, fun k q => absurd q (Nat.not_lt_zero _)⟩, fun x q1 q2 => by omega, fun _ => 0, by rw [e0]; exact xEx.z hn, fun q => absurd rfl q⟩, fun q => by omega⟩
theorem xRk.had {had : Int} (hn : n ≤ 9) (h : xRk n F W B T k had e y ta tw) (hk : 0 ≤ k) (hy : y k ≠ -1) : (0 ≤ had ∧ had < 512) ∧ xtc had.toNat (y k).toNat = 1 ∧ had = ((xmn y k.toNat : Nat) : Int) + ((2 ^ (y k).toNat : Nat) : Int) := by
  obtain ⟨h1, h2, h3, h4⟩ := h.1 hk
  rw [if_neg hy] at h2
  have m := xmn_in hn _ h4.1.1
  obtain ⟨u1, u2, u3, u4⟩ := xn_up ⟨xmn y k.toNat, m.1⟩ ⟨(y k).toNat, by omega⟩ (h3 hy)
  have u1' : xmn y k.toNat + 2 ^ (y k).toNat < 512 := u1
  have u3' : xtc (xmn y k.toNat + 2 ^ (y k).toNat) (y k).toNat = 1 := u3
  clear u1 u2 u3 u4
  have e1 : had.toNat = xmn y k.toNat + 2 ^ (y k).toNat ∧ (0 ≤ had ∧ had < 512) := by
    clear u3' m h3 h4 h
    generalize 2 ^ (y k).toNat = p at h2 u1' ⊢
    omega
  refine ⟨e1.2, by rw [e1.1]; exact u3', h2⟩
theorem xRk.ri {had : Int} (h : xRk n F W B T k had e y ta tw) (hk : 0 ≤ k) : xRi n F W B T k (y k + 1) e y ta tw := (h.1 hk).2.2.2
theorem xRi.skip (h : xRi n F W B T k i e y ta tw) (hn : n ≤ 9) (hk : 0 ≤ k ∧ k < n) (hi : 0 ≤ i ∧ i < n) (hW : ∀ i j, 0 ≤ i → i < n → 0 ≤ j → j < n → 0 ≤ W i j) (why : xtc (xmn y k.toNat) i.toNat = 1 ∨ ∃ z, xCo9 F W y k i z ∧ z < 100000 ∧ (B i < z ∨ e ≤ z)) : xRi n F W B T k (i + 1) e y ta tw := by
  obtain ⟨h1, h2, c, h3, h4⟩ := h
  refine ⟨h1, h2, c, ?_, h4⟩
  rcases why with w | ⟨z, w1, w2, w3⟩
  · obtain ⟨x, x1, x2, x3⟩ := ((xmn_in hn _ h1.1).2.2 i.toNat (by omega)).mp w
    exact h3.had hk ⟨x, x1, by omega, by omega⟩
  · exact h3.bad hn hW hk w1 w2 (Or.inr w3)
theorem xRi.ne {x : Int} (h : xRi n F W B T k i e y ta tw) (hx : 0 ≤ x ∧ x < k) : (0 ≤ y x ∧ y x < n) ∧ ta x = xar F W y x.toNat ∧ xar F W y x.toNat ≤ B (y x) := by
  have r := h.1.1.2.1 x hx.1 (by omega)
  have f := h.1.2 x.toNat (by omega)
  rw [show ((x.toNat : Nat) : Int) = x by omega] at f
  exact ⟨r, h.2.1 x hx.1 hx.2, f⟩
theorem xRi.pop (h : xRi n F W B T k n e y ta tw) (hn : n ≤ 9) (hk : 0 ≤ k ∧ k < n) : xRk n F W B T (k + (-1)) ((xmn y k.toNat : Nat) : Int) e y ta tw := by
  obtain ⟨h1, h2, c, h3, h4⟩ := h
  refine ⟨fun hk1 => ?_, fun hk0 => ?_⟩
  · have ek : k + (-1) = k - 1 := by omega
    rw [ek] at hk1 ⊢
    have r := h1.1.2.1 (k - 1) (by omega) (by omega)
    have px := h1.1.lt (c := (k - 1).toNat) (by omega)
    have ekn : k.toNat = (k - 1).toNat + 1 := by omega
    have mk : xmn y k.toNat = xmn y (k - 1).toNat + 2 ^ (y (k - 1)).toNat := by
      rw [ekn]
      show xmn y (k - 1).toNat + 2 ^ (y (((k - 1).toNat : Nat) : Int)).toNat = _
      rw [show (((k - 1).toNat : Nat) : Int) = k - 1 by omega]
    refine ⟨by omega, by rw [if_neg (by omega), mk]; omega, fun _ => (xmn_no hn px r).mpr (fun x q1 q2 => h1.1.2.2 x (k - 1) q1 (by omega) (by omega) (by omega) (by omega)), ⟨h1.lt (by omega), fun x q1 q2 => h2 x q1 (by omega), c, h3.pop (by omega), h4⟩⟩
  · have k0 : k = 0 := by omega
    subst k0
    exact ⟨c, h3.all (by omega), h4⟩
theorem xRi.fz (hn : 0 ≤ n ∧ n ≤ 9) (h : xRi n F W B T k i e y ta tw) (hk : 0 ≤ k ∧ k < n) (hi : 0 ≤ i ∧ i < n) (hb : xtc (xmn y k.toNat) i.toNat = 0) (hz : xCo9 F W y k i z) (hB : z ≤ B i) (e1 : y' k = i) (e2 : ∀ x, 0 ≤ x → x < k → y' x = y x) : xFz n F W B y' (k.toNat + 1) ∧ xar F W y' k.toNat = z ∧ xmn y' k.toNat = xmn y k.toNat := by
  have ck : ((k.toNat : Nat) : Int) = k := by omega
  have ag : ∀ x : Int, 0 ≤ x → x < (k.toNat : Nat) → y' x = y x := fun x q1 q2 => e2 x q1 (by omega)
  have mk : xmn y' k.toNat = xmn y k.toNat := xmn_cg ag
  have f0 : xFz n F W B y' k.toNat := h.1.cg ag
  have ar := hz.at hk.1 e2 e1
  have px : xPfz n y' (k.toNat + 1) := f0.1.ext hn (by rw [ck, e1]; exact hi) (by rw [mk, ck, e1]; exact hb)
  refine ⟨⟨px, fun x hx => ?_⟩, ar, mk⟩
  by_cases q : x = k.toNat
  · rw [q, ar, ck, e1]; exact hB
  · exact f0.2 x (by omega)
theorem xRi.push {had : Int} (hn : 0 ≤ n ∧ n ≤ 9) (h : xRi n F W B T k i e y ta tw) (hk : 0 ≤ k ∧ k + 1 < n) (hi : 0 ≤ i ∧ i < n) (hb : xtc (xmn y k.toNat) i.toNat = 0) (hz : xCo9 F W y k i z) (hB : z ≤ B i) (e1 : y' k = i) (e2 : ∀ x, 0 ≤ x → x ≠ k → x ≠ k + 1 → y' x = y x) (e3 : y' (k + 1) = -1) (t1 : ta' k = z) (t2 : ∀ x, 0 ≤ x → x ≠ k → ta' x = ta x) (w1 : ∀ x, 0 ≤ x → tw' x = tw x) (hh : had = ((xmn y k.toNat : Nat) : Int) + ((2 ^ i.toNat : Nat) : Int)) : xRk n F W B T (k + 1) had e y' ta' tw' := by
  have e2' : ∀ x, 0 ≤ x → x < k → y' x = y x := fun x q1 q2 => e2 x q1 (by omega) (by omega)
  obtain ⟨f1, f2, f3⟩ := xRi.fz hn h ⟨hk.1, by omega⟩ hi hb hz hB e1 e2'
  have ek : (k + 1).toNat = k.toNat + 1 := by omega
  have ck : ((k.toNat : Nat) : Int) = k := by omega
  obtain ⟨h1, h2, c, h3, h4⟩ := h
  refine ⟨fun _ => ⟨by omega, ?_, fun q => absurd e3 q, ?_, ?_, c, ?_, fun q x q1 q2 => by rw [w1 x q1]; exact h4 q x q1 q2⟩, fun q => by omega⟩
  · rw [if_pos e3, ek]
    show had = ((xmn y' k.toNat + 2 ^ (y' ((k.toNat : Nat) : Int)).toNat : Nat) : Int) + 0
    rw [f3, ck, e1, hh]
    omega
  · rw [ek]; exact f1
  · intro x q1 q2
    by_cases q : x = k
    · rw [q, t1, f2]
    · rw [t2 x q1 q, h2 x q1 (by omega)]
      exact xar_cg (fun j w1 w2 => (e2' j w1 (by omega)).symm)
  · rw [e3]
    exact h3.push hk e1 e2'
theorem xRi.leaf {had : Int} (hn : 0 ≤ n ∧ n ≤ 9) (h : xRi n F W B T k i e y ta tw) (hk : 0 ≤ k ∧ k + 1 = n) (hi : 0 ≤ i ∧ i < n) (hb : xtc (xmn y k.toNat) i.toNat = 0) (hz : xCo9 F W y k i z) (hB : z ≤ B i) (hl : z < e) (e1 : y' k = i) (e2 : ∀ x, 0 ≤ x → x ≠ k → y' x = y x) (t1 : ∀ x, 0 ≤ x → x < k → ta' x = ta x) (w1 : ∀ x, 0 ≤ x → x < n → tw' x = T (y' x)) (hh : had = ((xmn y k.toNat : Nat) : Int) + ((2 ^ i.toNat : Nat) : Int)) : xRk n F W B T k had z y' ta' tw' := by
  have e2' : ∀ x, 0 ≤ x → x < k → y' x = y x := fun x q1 q2 => e2 x q1 (by omega)
  obtain ⟨f1, f2, f3⟩ := xRi.fz hn h ⟨hk.1, by omega⟩ hi hb hz hB e1 e2'
  have en : n.toNat = k.toNat + 1 := by omega
  obtain ⟨h1, h2, c, h3, h4⟩ := h
  refine ⟨fun _ => ⟨by omega, ?_, fun _ => by rw [f3, e1]; exact hb, f1.lt (by omega), fun x q1 q2 => ?_, y', ?_, fun _ => w1⟩, fun q => by omega⟩
  · rw [if_neg (by omega), f3, e1]; exact hh
  · rw [t1 x q1 q2, h2 x q1 q2]
    exact xar_cg (fun j w1 w2 => (e2' j w1 (by omega)).symm)
  · rw [e1]
    exact h3.leaf hk e1 e2' (by rw [en]; exact f1) (by rw [en]; exact f2) hl
theorem xRk.fin {had : Int} (hn : 1 ≤ n) (hB : ∀ i, 0 ≤ i → i < n → B i < 100000) (h : xRk n F W B T (-1) had e y ta tw) : (e = 100000 ∧ ∀ t, ¬ xFz n F W B t n.toNat) ∨ (e < 100000 ∧ ∃ c, xBw n F W B e c ∧ ∀ x, 0 ≤ x → x < n → tw x = T (c x)) := by
  obtain ⟨c, h1, h2⟩ := h.2 rfl
  rcases xEx.fin hn hB h1 with q | q
  · exact Or.inl q
  · exact Or.inr ⟨q.1, c, q.2, h2 (by omega)⟩
end XRK
def xQud (Q : Int → Int → Int) (a b n : Int) : Int → Int → Int := fun x y => if (x = a ∧ y = b) ∨ (x = b ∧ y = a) then n else Q x y
def xTK (f : Int → Int) (Q : Int → Int → Int) (k r m m1 : Int) (Y Y1 : Int → Int) : Prop := (k ≠ 20 ∧ r = -1 ∧ m1 = m ∧ ∀ i, 0 ≤ i → i < 9 → Y1 i = Y i) ∨ (k = 20 ∧ xTk f Q r m m1 Y Y1)
theorem xTK.det {f : Int → Int} {Q : Int → Int → Int} {k r r' m m1 m1' : Int} {Y Y1 Y' Y1' : Int → Int} (hm : m ≤ 9) (ha : ∀ k, 0 ≤ k → k < m → Y k = Y' k) (h : xTK f Q k r m m1 Y Y1) (h' : xTK f Q k r' m m1' Y' Y1') : r = r' ∧ m1 = m1' ∧ ∀ k, 0 ≤ k → k < m1 → Y1 k = Y1' k := by
  rcases h with ⟨a0, a1, a2, a3⟩ | ⟨a0, a1⟩
  · rcases h' with ⟨b0, b1, b2, b3⟩ | ⟨b0, b1⟩
    · exact ⟨by omega, by omega, fun i q1 q2 => by rw [a3 i q1 (by omega), b3 i q1 (by omega)]; exact ha i q1 (by omega)⟩
    · exact absurd b0 a0
  · rcases h' with ⟨b0, b1, b2, b3⟩ | ⟨b0, b1⟩
    · exact absurd a0 b0
    · exact xTk.det hm ha a1 b1
def xMg (F : Int → Int) (W : Int → Int → Int) (y B : Int → Int) (k i had e r : Int) : Prop := (r = 1 ∧ xtc had.toNat i.toNat = 0 ∧ ∃ z, xCo9 F W y k i z ∧ z ≤ B i ∧ z < e) ∨ (r = 0 ∧ (xtc had.toNat i.toNat = 1 ∨ ∃ z, xCo9 F W y k i z ∧ z < 100000 ∧ (B i < z ∨ e ≤ z)))
theorem xar_nn {n : Int} {F v : Int → Int} {W : Int → Int → Int} (hF : ∀ i, 0 ≤ i → i < n → 0 ≤ F i) (hW : ∀ i j, 0 ≤ i → i < n → 0 ≤ j → j < n → 0 ≤ W i j) {b : Nat} (hv : xPfz n v b) : ∀ k : Nat, k < b → 0 ≤ xar F W v k := by
  intro k
  induction k with
  | zero => intro hk; exact hF _ (hv.2.1 0 (by omega) (by omega)).1 (hv.2.1 0 (by omega) (by omega)).2
  | succ k ih =>
    intro hk
    have i1 := ih (by omega)
    have r1 := hv.2.1 k (by omega) (by omega)
    have r2 := hv.2.1 ((k : Int) + 1) (by omega) (by omega)
    have q := hW _ _ r1.1 r1.2 r2.1 r2.2
    show 0 ≤ xar F W v k + W (v k) (v (k + 1))
    omega
theorem xRi.kp {n e k i : Int} {F B T y y' ta ta' tw : Int → Int} {W : Int → Int → Int} (h : xRi n F W B T k i e y ta tw) (hk : 0 ≤ k) (e2 : ∀ x, 0 ≤ x → x < k → y' x = y x) (t2 : ∀ x, 0 ≤ x → x < k → ta' x = ta x) (hF : ∀ i, 0 ≤ i → i < n → 0 ≤ F i) (hW : ∀ i j, 0 ≤ i → i < n → 0 ≤ j → j < n → 0 ≤ W i j) (hB : ∀ i, 0 ≤ i → i < n → B i ≤ 65535) : k = 0 ∨ ((0 ≤ y' (k - 1) ∧ y' (k - 1) < n) ∧ ta' (k - 1) = xar F W y' (k - 1).toNat ∧ 0 ≤ ta' (k - 1) ∧ ta' (k - 1) ≤ 65535) := by
  by_cases q : k = 0
  · exact Or.inl q
  · obtain ⟨r1, r2, r3⟩ := xRi.ne h (x := k - 1) (by omega)
    have nn := xar_nn hF hW h.1.1 (k - 1).toNat (by omega)
    have bb := hB _ r1.1 r1.2
    have ea : xar F W y' (k - 1).toNat = xar F W y (k - 1).toNat := xar_cg (fun x q1 q2 => e2 x q1 (by omega))
    rw [e2 (k - 1) (by omega) (by omega), t2 (k - 1) (by omega) (by omega), ea, r2]
    exact Or.inr ⟨r1, rfl, nn, by omega⟩
def xRc (S : xT) (g : xG) (a : Nat) (n : Int) (Y : Int → Int) (Q : Int → Int → Int) : Prop := ∃ rt wy ct mg : Nat, S a = some (12, 0) ∧ g a 9 = .ref rt ∧ S rt = some (9, 0) ∧ g rt 2 = .ref wy ∧ S wy = some (13300, 9) ∧ g rt 5 = .int (iI n) ∧ 0 ≤ n ∧ n ≤ 9 ∧ xv g wy = Y ∧ g a 2 = .ref ct ∧ S ct = some (4, 0) ∧ g ct 6 = .ref mg ∧ xQm S g mg Q
def xrc : List (Nat × Nat) := [(12, 9), (12, 2), (9, 2), (9, 5), (13300, 0), (4, 6), (11604, 0), (11500, 0)]
theorem xRc_m {S S1 : xT} {g g1 : xG} {a : Nat} {n : Int} {Y : Int → Int} {Q : Int → Int → Int} {L : List (Nat × Nat)} (h : xRc S g a n Y Q) (hm : xM L S g g1) (hle : xLe S S1) (hd : ∀ x ∈ xrc, x ∉ L) : xRc S1 g1 a n Y Q := by
  obtain ⟨rt, wy, ct, mg, h1, h2, h3, h4, h5, h6, h7, h8, h9, h10, h11, h12, h13⟩ := h
  refine ⟨rt, wy, ct, mg, hle _ _ h1, ?_, hle _ _ h3, ?_, hle _ _ h5, ?_, h7, h8, ?_, ?_, hle _ _ h11, ?_, xQm_m h13 hm hle (fun x q => hd x (by revert x q; decide))⟩
  · rw [hm _ _ _ _ h1 (hd _ (by decide))]; exact h2
  · rw [hm _ _ _ _ h3 (hd _ (by decide))]; exact h4
  · rw [hm _ _ _ _ h3 (hd _ (by decide))]; exact h6
  · rw [xv_m hm h5 (by decide) (hd _ (by decide))]; exact h9
  · rw [hm _ _ _ _ h1 (hd _ (by decide))]; exact h10
  · rw [hm _ _ _ _ h11 (hd _ (by decide))]; exact h12
def xQ0 (Q : Int → Int → Int) : Prop := ∀ x y : Int, 0 ≤ x → x < 10 → 0 ≤ y → y < 10 → Q x y = if x = y then 0 else 10
def xQr (f : Int → Int) (Q : Int → Int → Int) : Prop := ∀ x y : Int, 0 ≤ x → x < 10 → 0 ≤ y → y < 10 → f (10 * x + y) = Q x y
def xRm (S : xT) (g : xG) (a : Nat) (n : Int) (Y : Int → Int) (Q : Int → Int → Int) : Prop := ∃ (ty wr : Nat) (n8 z8 i8 : Int), S a = some (13, 0) ∧ g a 84 = .ref ty ∧ S ty = some (19000, 9) ∧ g a 87 = .int (iI n8) ∧ 0 ≤ n8 ∧ n8 ≤ 9 ∧ g a 88 = .int (iI z8) ∧ ((z8 = 0 ∧ n = 0) ∨ (z8 = 1 ∧ n = n8)) ∧ xv g ty = Y ∧ g a 15 = .ref wr ∧ S wr = some (15200, 100) ∧ g a 18 = .int (iI i8) ∧ ((i8 = 0 ∧ xQ0 Q) ∨ (i8 = 1 ∧ xQr (xv g wr) Q))
def xrm : List (Nat × Nat) := [(13, 84), (13, 87), (13, 88), (13, 15), (13, 18), (19000, 0), (15200, 0)]
theorem xRm_m {S S1 : xT} {g g1 : xG} {a : Nat} {n : Int} {Y : Int → Int} {Q : Int → Int → Int} {L : List (Nat × Nat)} (h : xRm S g a n Y Q) (hm : xM L S g g1) (hle : xLe S S1) (hd : ∀ x ∈ xrm, x ∉ L) : xRm S1 g1 a n Y Q := by
  obtain ⟨ty, wr, n8, z8, i8, h1, h2, h3, h4, h5, h6, h7, h8, h9, h10, h11, h12, h13⟩ := h
  have e := xv_m hm h11 (by decide) (hd _ (by decide))
  refine ⟨ty, wr, n8, z8, i8, hle _ _ h1, ?_, hle _ _ h3, ?_, h5, h6, ?_, h8, ?_, ?_, hle _ _ h11, ?_, by rw [e]; exact h13⟩
  · rw [hm _ _ _ _ h1 (hd _ (by decide))]; exact h2
  · rw [hm _ _ _ _ h1 (hd _ (by decide))]; exact h4
  · rw [hm _ _ _ _ h1 (hd _ (by decide))]; exact h7
  · rw [xv_m hm h3 (by decide) (hd _ (by decide))]; exact h9
  · rw [hm _ _ _ _ h1 (hd _ (by decide))]; exact h10
  · rw [hm _ _ _ _ h1 (hd _ (by decide))]; exact h12
theorem xQs.u {Q : Int → Int → Int} {a b n : Int} (h : xQs Q) (hn : 0 ≤ n ∧ n ≤ 200) : xQs (xQud Q a b n) := fun x y q1 q2 q3 q4 => by
  have w := h x y q1 q2 q3 q4
  have w' := h y x q3 q4 q1 q2
  unfold xQud
  by_cases c : (x = a ∧ y = b) ∨ (x = b ∧ y = a)
  · rw [if_pos c, if_pos (by omega)]; exact ⟨rfl, hn.1, hn.2⟩
  · rw [if_neg c, if_neg (by omega)]; exact w
theorem xQm.up2 {S : xT} {g g1 g2 : xG} {mg wa wb : Nat} {Q : Int → Int → Int} {a b n : Int} (h : xQm S g mg Q) (ha : 0 ≤ a ∧ a < 10) (hb : 0 ≤ b ∧ b < 10) (hn : 0 ≤ n ∧ n ≤ 200) (e : g mg a.toNat = .ref wa) (hfr : xFr 11500 S g g1 wa) (hu : xUp (xv g1 wa) (xv g wa) b n) (hg : ∀ k, g1 mg k = g mg k) (e' : g1 mg b.toNat = .ref wb) (hfr' : xFr 11500 S g1 g2 wb) (hu' : xUp (xv g2 wb) (xv g1 wb) a n) (hg' : ∀ k, g2 mg k = g1 mg k) : xQm S g2 mg (xQud Q a b n) := by
  have h1 := xQ1.up h.1 ha hb e hfr hu hg
  have h2 := xQ1.up h1 hb ha e' hfr' hu' hg'
  refine ⟨h2.cg (fun x y q1 q2 q3 q4 => ?_), h.2.u hn⟩
  unfold xQud
  by_cases c : x = b ∧ y = a
  · rw [if_pos c, if_pos (Or.inr c)]
  · rw [if_neg c]
    by_cases d : x = a ∧ y = b
    · rw [if_pos d, if_pos (Or.inl d)]
    · rw [if_neg d, if_neg (by omega)]
theorem xCo9.cg {F : Int → Int} {W : Int → Int → Int} {y y' : Int → Int} {k i z : Int} (h : xCo9 F W y' k i z) (hk : 0 ≤ k) (e : ∀ x, 0 ≤ x → x < k → y' x = y x) : xCo9 F W y k i z := by
  unfold xCo9 at h ⊢
  by_cases q : k = 0
  · rw [if_pos q] at h ⊢; exact h
  · rw [if_neg q] at h ⊢
    rw [h, e (k - 1) (by omega) (by omega), xar_cg (v := y') (v' := y) (fun x q1 q2 => e x q1 (by omega))]
theorem xCo9.in {F : Int → Int} {W : Int → Int → Int} {y : Int → Int} {k i z z' : Int} (h : xCo9 F W y k i z) (h' : xCo9 F W y k i z') : z = z' := h.trans h'.symm
def xTW (S : xT) (g : xG) (a m : Nat) : Prop := ∃ (n : Int) (Y Y' : Int → Int) (Q : Int → Int → Int), xRc S g a n Y Q ∧ xRm S g m n Y' Q ∧ ∀ k, 0 ≤ k → k < n → Y k = Y' k
theorem xTW_m {S S1 : xT} {g g1 : xG} {a m : Nat} {L : List (Nat × Nat)} (h : xTW S g a m) (hm : xM L S g g1) (hle : xLe S S1) (hd : ∀ x ∈ xrc ++ xrm, x ∉ L) : xTW S1 g1 a m := by
  obtain ⟨n, Y, Y', Q, h1, h2, h3⟩ := h
  exact ⟨n, Y, Y', Q, xRc_m h1 hm hle (fun x q => hd x (List.mem_append.mpr (Or.inl q))), xRm_m h2 hm hle (fun x q => hd x (List.mem_append.mpr (Or.inr q))), h3⟩
theorem xRc.r {S : xT} {g : xG} {a : Nat} {n : Int} {Y : Int → Int} {Q : Int → Int → Int} (h : xRc S g a n Y Q) : 0 ≤ n ∧ n ≤ 9 := by
  obtain ⟨rt, wy, ct, mg, h1, h2, h3, h4, h5, h6, h7, h8, h9⟩ := h
  exact ⟨h7, h8⟩
theorem xat9 {n k r r' : Int} {C C' : Int → Int} (ha : ∀ k, 0 ≤ k → k < n → C k = C' k) (h : r = if 0 ≤ k ∧ k < n then C k else -1) (h' : r' = if 0 ≤ k ∧ k < n then C' k else -1) : r = r' := by
  rw [h, h']
  by_cases q : 0 ≤ k ∧ k < n
  · rw [if_pos q, if_pos q]; exact ha k q.1 q.2
  · rw [if_neg q, if_neg q]
set_option maxHeartbeats 4000000 in
set_option maxRecDepth 100000 in
theorem c3_minutes (l : Launch) (D : va_G) (kA : Nat → ClassId) (b0 : Nat) (t0 : Nat → Nat) (S : xT) (g : xG) (a0 : Nat) (x1 : Int) (x2 : Int) (x3 : Int) (n8 : Int) (Y8 : Int → Int) (Q8 : Int → Int → Int) (hs_a0 : S a0 = some (12, 0)) (hx1 : (-2147483648) ≤ x1 ∧ x1 ≤ 2147483647) (hx2 : (-2147483648) ≤ x2 ∧ x2 ≤ 2147483647) (hx3 : (-2147483648) ≤ x3 ∧ x3 ≤ 2147483647) (hp0 : xRc S g a0 n8 Y8 Q8) : xMt l yX11_minutes cX11_minutes 4 (some .boolean) 2 0 0 42 D kA b0 t0 [(11500, 0)] [.ref a0, .int (iI x1), .int (iI x2), .int (iI x3)] S g (fun (r : Option Value) (S1 : xT) (g1 : xG) => S = S1 ∧ ∃ z : Int, r = some (.int (iI z)) ∧ 0 ≤ z ∧ z ≤ 1 ∧ ((z = 1 ↔ 0 ≤ x1 ∧ x1 ≤ 9 ∧ 0 ≤ x2 ∧ x2 ≤ 9 ∧ x1 ≠ x2 ∧ 1 ≤ x3 ∧ x3 ≤ 200)) ∧ (xRc S g1 a0 n8 Y8 (if z = 1 then xQud Q8 x1 x2 x3 else Q8))) := by
  refine xEnterZ (by decide) (by simp [lg_sl, Value.category]) [(0, .ref a0), (1, .int (iI x1)), (2, .int (iI x2)), (3, .int (iI x3))] rfl ?_
  intro K E hK hret _ _ _
  refine X_iloadn hK (i := 1) 1 kd38_27.2.2.2.2.1 rfl rfl ?_
  obtain ⟨rt8, wy8, ct8, mg8, hrc1, hrc2, hs_rt8, hrc4, hs_wy8, hrc6, hrc7, hrc8, hY8, hrc10, hs_ct8, hrc12, hQ8⟩ := hp0
  refine X_callS hK [.int (iI x1)] [] lk_X11_142 (c_X11_isCorner _ _ _ _ _ S g x1 (by omega)) kd38_27.2.2.2.2.2.1 rfl rfl (by simp [Value.category]) (by decide) (by decide) (by decide) (by decide) (fun r1 S3 g2 pr1 qr1 hg2 => ?_)
  obtain ⟨rfl, rfl, z4, rfl, lz4, uz4, k5⟩ := pr1
  refine X_st [.int (iI z4)] rfl ?_
  refine X_if_eq hK 30 (by omega) kd38_27.2.2.2.2.2.2.1 (by decide) (fun c6 => ?_) (fun c6 => ?_)
  · refine X_iconst hK kd38_28.2.2.2.2.2.2.1 ?_
    exact hret _ _ _ _ _ _ _ kd38_28.2.2.2.2.2.2.2.1 (by omega) (by omega) ⟨rfl, 0, rfl, (by omega), (by omega), (by omega), (by rw [if_neg (by omega)]; exact ⟨rt8, wy8, ct8, mg8, hs_a0, hrc2, hs_rt8, hrc4, hs_wy8, hrc6, by omega, by omega, hY8, hrc10, hs_ct8, hrc12, hQ8⟩)⟩ (Nat.le_refl _) (Nat.le_refl _)
  · refine X_iloadn hK (i := 2) 2 kd38_27.2.2.2.2.2.2.2.1 rfl rfl ?_
    refine X_callS hK [.int (iI x2)] [] lk_X11_142 (c_X11_isCorner _ _ _ _ _ S g x2 (by omega)) kd38_27.2.2.2.2.2.2.2.2.1 rfl rfl (by simp [Value.category]) (by decide) (by decide) (by decide) (by decide) (fun r7 S9 g8 pr7 qr7 hg8 => ?_)
    obtain ⟨rfl, rfl, z10, rfl, lz10, uz10, k11⟩ := pr7
    refine X_st [.int (iI z10)] rfl ?_
    refine X_if_eq hK 30 (by omega) kd38_27.2.2.2.2.2.2.2.2.2.1 (by decide) (fun c12 => ?_) (fun c12 => ?_)
    · refine X_iconst hK kd38_28.2.2.2.2.2.2.1 ?_
      exact hret _ _ _ _ _ _ _ kd38_28.2.2.2.2.2.2.2.1 (by omega) (by omega) ⟨rfl, 0, rfl, (by omega), (by omega), (by omega), (by rw [if_neg (by omega)]; exact ⟨rt8, wy8, ct8, mg8, hs_a0, hrc2, hs_rt8, hrc4, hs_wy8, hrc6, by omega, by omega, hY8, hrc10, hs_ct8, hrc12, hQ8⟩)⟩ (Nat.le_refl _) (Nat.le_refl _)
    · refine X_iloadn hK (i := 1) 1 kd38_27.2.2.2.2.2.2.2.2.2.2.1 rfl rfl ?_
      refine X_iloadn hK (i := 2) 2 kd38_27.2.2.2.2.2.2.2.2.2.2.2 rfl rfl ?_
      refine X_icmp_eq hK 30 (by omega) (by omega) kd38_28.1 (by decide) (fun c13 => ?_) (fun c13 => ?_)
      · refine X_iconst hK kd38_28.2.2.2.2.2.2.1 ?_
        exact hret _ _ _ _ _ _ _ kd38_28.2.2.2.2.2.2.2.1 (by omega) (by omega) ⟨rfl, 0, rfl, (by omega), (by omega), (by omega), (by rw [if_neg (by omega)]; exact ⟨rt8, wy8, ct8, mg8, hs_a0, hrc2, hs_rt8, hrc4, hs_wy8, hrc6, by omega, by omega, hY8, hrc10, hs_ct8, hrc12, hQ8⟩)⟩ (Nat.le_refl _) (Nat.le_refl _)
      · refine X_iloadn hK (i := 3) 3 kd38_28.2.1 rfl rfl ?_
        refine X_iconst hK kd38_28.2.2.1 ?_
        refine X_sipush hK kd38_28.2.2.2.1 (by decide) ?_
        refine X_callS hK [.int (iI x3), .int (iI 1), .int (iI 200)] [] lk_X11_115 (c_X11_within _ _ _ _ _ S g x3 1 200 (by omega) (by omega) (by omega)) kd38_28.2.2.2.2.1 rfl rfl (by simp [Value.category]) (by decide) (by decide) (by decide) (by decide) (fun r14 S16 g15 pr14 qr14 hg15 => ?_)
        obtain ⟨rfl, rfl, z17, rfl, lz17, uz17, k18⟩ := pr14
        refine X_st [.int (iI z17)] rfl ?_
        refine X_if_ne hK 32 (by omega) kd38_28.2.2.2.2.2.1 (by decide) (fun c19 => ?_) (fun c19 => ?_)
        · refine X_aloadn hK (i := 0) 0 kd38_28.2.2.2.2.2.2.2.2.1 rfl rfl ?_
          refine X_getK hK fl_X11_27_12 hs_a0 hrc10 kd38_28.2.2.2.2.2.2.2.2.2.1 ?_
          refine X_getK hK fl_X11_190_4 hs_ct8 hrc12 kd38_28.2.2.2.2.2.2.2.2.2.2.1 ?_
          refine X_iloadn hK (i := 1) 1 kd38_28.2.2.2.2.2.2.2.2.2.2.2 rfl rfl ?_
          refine X_aald hK 11500 10 hQ8.1.1 (by decide) sl_11604 (by omega) (by omega) kd38_29.1 (fun b20 eb20 hs_b20 => ?_)
          refine X_iloadn hK (i := 2) 2 kd38_29.2.1 rfl rfl ?_
          refine X_iloadn hK (i := 3) 3 kd38_29.2.2.1 rfl rfl ?_
          refine X_iast hK hs_b20 (by decide) (by decide) sl_11500 (by omega) (by omega) (by omega) (by omega) kd38_29.2.2.2.1 (fun g21 hg21 => ?_)
          refine X_aloadn hK (i := 0) 0 kd38_29.2.2.2.2.1 rfl rfl ?_
          refine X_getK hK fl_X11_27_12 hs_a0 ((xs_a hg21 (xne hs_a0 hs_b20 (by decide))).trans hrc10) kd38_29.2.2.2.2.2.1 ?_
          refine X_getK hK fl_X11_190_4 hs_ct8 ((xs_a hg21 (xne hs_ct8 hs_b20 (by decide))).trans hrc12) kd38_29.2.2.2.2.2.2.1 ?_
          refine X_iloadn hK (i := 2) 2 kd38_29.2.2.2.2.2.2.2.1 rfl rfl ?_
          refine X_aald hK 11500 10 hQ8.1.1 (by decide) sl_11604 (by omega) (by omega) kd38_29.2.2.2.2.2.2.2.2.1 (fun b22 eb22 hs_b22 => ?_)
          refine X_iloadn hK (i := 1) 1 kd38_29.2.2.2.2.2.2.2.2.2.1 rfl rfl ?_
          refine X_iloadn hK (i := 3) 3 kd38_29.2.2.2.2.2.2.2.2.2.2.1 rfl rfl ?_
          refine X_iast hK hs_b22 (by decide) (by decide) sl_11500 (by omega) (by omega) (by omega) (by omega) kd38_29.2.2.2.2.2.2.2.2.2.2.2 (fun g23 hg23 => ?_)
          refine X_iconst hK kd38_30.1 ?_
          exact hret _ _ _ _ _ _ _ kd38_30.2.1 (by omega) (by omega) ⟨rfl, 1, rfl, (by omega), (by omega), (by omega), (by rw [if_pos rfl]; exact ⟨rt8, wy8, ct8, mg8, hs_a0, ((xs_a hg23 (xne hs_a0 hs_b22 (by decide))).trans ((xs_a hg21 (xne hs_a0 hs_b20 (by decide))).trans hrc2)), hs_rt8, ((xs_a hg23 (xne hs_rt8 hs_b22 (by decide))).trans ((xs_a hg21 (xne hs_rt8 hs_b20 (by decide))).trans hrc4)), hs_wy8, ((xs_a hg23 (xne hs_rt8 hs_b22 (by decide))).trans ((xs_a hg21 (xne hs_rt8 hs_b20 (by decide))).trans hrc6)), by omega, by omega, ((Eq.trans (xv_a hg23 (xne hs_wy8 hs_b22 (by decide))) (xv_a hg21 (xne hs_wy8 hs_b20 (by decide)))).trans hY8), ((xs_a hg23 (xne hs_a0 hs_b22 (by decide))).trans ((xs_a hg21 (xne hs_a0 hs_b20 (by decide))).trans hrc10)), hs_ct8, ((xs_a hg23 (xne hs_ct8 hs_b22 (by decide))).trans ((xs_a hg21 (xne hs_ct8 hs_b20 (by decide))).trans hrc12)), (xQm.up2 hQ8 (by omega) (by omega) (by omega) eb20 (xFr.w xFr.rf hg21) (xUp.of hg21 (by omega) (by omega)) (fun k9 => xs_a hg21 (xne hQ8.1.1 hs_b20 (by decide))) eb22 (xFr.w xFr.rf hg23) (xUp.of hg23 (by omega) (by omega)) (fun k9 => xs_a hg23 (xne hQ8.1.1 hs_b22 (by decide))))⟩)⟩ (Nat.le_refl _) (Nat.le_refl _)
        · refine X_iconst hK kd38_28.2.2.2.2.2.2.1 ?_
          exact hret _ _ _ _ _ _ _ kd38_28.2.2.2.2.2.2.2.1 (by omega) (by omega) ⟨rfl, 0, rfl, (by omega), (by omega), (by omega), (by rw [if_neg (by omega)]; exact ⟨rt8, wy8, ct8, mg8, hs_a0, hrc2, hs_rt8, hrc4, hs_wy8, hrc6, by omega, by omega, hY8, hrc10, hs_ct8, hrc12, hQ8⟩)⟩ (Nat.le_refl _) (Nat.le_refl _)

set_option maxHeartbeats 4000000 in
set_option maxRecDepth 100000 in
theorem c3_truck (l : Launch) (D : va_G) (kA : Nat → ClassId) (b0 : Nat) (t0 : Nat → Nat) (S : xT) (g : xG) (a0 : Nat) (w0 : Nat) (n0 : Int) (y0 : Nat) (n8 : Int) (Y8 : Int → Int) (Q8 : Int → Int → Int) (hs_a0 : S a0 = some (12, 0)) (ew0 : g a0 0 = .ref w0) (hs_w0 : S w0 = some (10, 0)) (hn0 : 0 ≤ n0 ∧ n0 ≤ 420) (en0 : g w0 1 = .int (iI n0)) (ey0 : g w0 0 = .ref y0) (hs_y0 : S y0 = some (13500, 420)) (hp0 : xSi S t0) (hp1 : xRc S g a0 n8 Y8 Q8) : xMu l yX11_truck cX11_truck 2 (some .int) 4 1 4608 86 D kA b0 t0 [(10, 1), (9, 4), (13100, 0), (13200, 0), (9, 3), (13400, 0), (9, 5), (13300, 0)] [.ref a0] S g (fun (r : Option Value) (S1 : xT) (g1 : xG) (dc ds : Nat) => xNw2 S S1 [13400] ∧ ∃ z : Int, r = some (.int (iI z)) ∧ (-2147483648) ≤ z ∧ z ≤ 999999 ∧ (xSi S1 t0) ∧ (dc ≤ 1 ∧ ds ≤ 4608) ∧ (g1 w0 1 = .int (iI (0))) ∧ (∃ (n1 : Int) (Y1 : Int → Int), xRc S1 g1 a0 n1 Y1 Q8 ∧ xTK (xv g y0) Q8 n0 z n8 n1 Y8 Y1)) := by
  refine xEnterUI (by decide) (by simp [lg_sl, Value.category]) [(0, .ref a0)] rfl ?_
  intro K E hK hret hS0 _ hini ht
  subst ht
  refine X_aloadn hK (i := 0) 0 kd48_0.1 rfl rfl ?_
  obtain ⟨rt8, wy8, ct8, mg8, hrc1, hrc2, hs_rt8, hrc4, hs_wy8, hrc6, hrc7, hrc8, hY8, hrc10, hs_ct8, hrc12, hQ8⟩ := hp1
  refine X_getK hK fl_X11_10_12 hs_a0 ew0 kd48_0.2.1 ?_
  refine X_getK hK fl_X11_102_10 hs_w0 en0 kd48_0.2.2.1 ?_
  refine X_bipush hK kd48_0.2.2.2.1 (by decide) ?_
  refine X_icmp_ne hK 30 (by omega) (by omega) kd48_0.2.2.2.2.1 (by decide) (fun c1 => ?_) (fun c1 => ?_)
  · refine X_iconst hK kd48_1.2.1 ?_
    refine X_istoren hK (i := 1) [(1, .int (iI (-1))), (0, .ref a0)] kd48_1.2.2.1 rfl (by decide) rfl ?_
    refine X_aloadn hK (i := 0) 1 kd48_1.2.2.2.1 rfl rfl ?_
    refine X_getK hK fl_X11_10_12 hs_a0 ew0 kd48_1.2.2.2.2.1 ?_
    refine X_iconst hK kd48_1.2.2.2.2.2.1 ?_
    refine X_puti hK fl_X11_102_10 hs_w0 (by decide) sl_10_1 (by omega) (by omega) kd48_1.2.2.2.2.2.2.1 (fun g2 hg2 => ?_)
    refine X_iloadn hK (i := 1) 0 kd48_1.2.2.2.2.2.2.2.1 rfl rfl ?_
    exact hret _ _ _ _ _ _ _ kd48_1.2.2.2.2.2.2.2.2.1 ⟨xNw2.rf, (-1), rfl, (by omega), (by omega), hp0, (by omega), ((xs_s hg2).trans (by congr 2 <;> omega)), ⟨n8, xv g2 wy8, ⟨rt8, wy8, ct8, mg8, hs_a0, ((xs_k hg2 (by decide)).trans hrc2), hs_rt8, ((xs_k hg2 (by decide)).trans hrc4), hs_wy8, ((xs_k hg2 (by decide)).trans hrc6), by omega, by omega, rfl, ((xs_k hg2 (by decide)).trans hrc10), hs_ct8, ((xs_k hg2 (by decide)).trans hrc12), (xQm_u hQ8 hg2 hs_w0 (by decide))⟩, (Or.inl ⟨by omega, by omega, rfl, fun i9 _ _ => congrFun ((xv_a hg2 (xne hs_wy8 hs_w0 (by decide))).trans hY8) i9⟩)⟩⟩ (by omega) (by omega)
  · refine X_aloadn hK (i := 0) 0 kd48_0.2.2.2.2.2.1 rfl rfl ?_
    refine X_getK hK fl_X11_69_12 hs_a0 hrc2 kd48_0.2.2.2.2.2.2.1 ?_
    refine X_aloadn hK (i := 0) 0 kd48_0.2.2.2.2.2.2.2.1 rfl rfl ?_
    refine X_getK hK fl_X11_27_12 hs_a0 hrc10 kd48_0.2.2.2.2.2.2.2.2.1 ?_
    refine X_aloadn hK (i := 0) 0 kd48_0.2.2.2.2.2.2.2.2.2.1 rfl rfl ?_
    refine X_getK hK fl_X11_10_12 hs_a0 ew0 kd48_0.2.2.2.2.2.2.2.2.2.2.1 ?_
    refine X_knowr 13100 9 hs_rt8 (by decide) sl_9_0 (fun b3 eb3 hs_b3 => ?_)
    refine X_knowr 13200 9 hs_rt8 (by decide) sl_9_1 (fun b4 eb4 hs_b4 => ?_)
    refine X_callVU hK [.ref ct8, .ref w0] [] lk_X11_339 (c3_drive _ _ _ _ _ S g rt8 ct8 w0 b3 b4 wy8 n8 mg8 n0 y0 Q8 hs_rt8 hs_ct8 hs_w0 eb3 hs_b3 eb4 hs_b4 hrc4 hs_wy8 (by omega) hrc6 hrc12 hQ8.1.1 (by omega) en0 ey0 hs_y0 (hp0).2 hQ8 (by omega)) hs_rt8 ⟨by decide, rfl⟩ kd48_0.2.2.2.2.2.2.2.2.2.2.2 rfl rfl (by simp [Value.category]) (by decide) (by omega) (by omega) (by decide) (fun r5 S7 g6 dcr5 dsr5 pr5 qr5 hg6 => ?_)
    obtain ⟨wr5, z8, rfl, lz8, uz8, k9, k10, k11⟩ := pr5
    refine X_st [.int (iI z8)] rfl ?_
    obtain ⟨z12, ez12, lz12, uz12, kz12⟩ := k11
    refine X_goto hK 31 kd48_1.1 (by decide) ?_
    refine X_istoren hK (i := 1) [(1, .int (iI z8)), (0, .ref a0)] kd48_1.2.2.1 rfl (by decide) rfl ?_
    refine X_aloadn hK (i := 0) 1 kd48_1.2.2.2.1 rfl rfl ?_
    refine X_getK hK fl_X11_10_12 (qr5 _ _ hs_a0) ((hg6 a0 12 0 0 hs_a0 (by decide)).trans ew0) kd48_1.2.2.2.2.1 ?_
    refine X_iconst hK kd48_1.2.2.2.2.2.1 ?_
    refine X_puti hK fl_X11_102_10 (qr5 _ _ hs_w0) (by decide) sl_10_1 (by omega) (by omega) kd48_1.2.2.2.2.2.2.1 (fun g13 hg13 => ?_)
    refine X_iloadn hK (i := 1) 0 kd48_1.2.2.2.2.2.2.2.1 rfl rfl ?_
    exact hret _ _ _ _ _ _ _ kd48_1.2.2.2.2.2.2.2.2.1 ⟨(xNw2.tr xNw2.rf wr5 (by decide)), z8, rfl, (by omega), (by omega), ⟨fun c m hc => (wr5 c _ m hc).elim (hp0.1 c m) (fun q => absurd q (by decide)), k10⟩, (by omega), ((xs_s hg13).trans (by congr 2 <;> omega)), ⟨z12, xv g13 wy8, ⟨rt8, wy8, ct8, mg8, (qr5 _ _ hs_a0), ((xs_k hg13 (by decide)).trans ((hg6 a0 12 0 9 hs_a0 (by decide)).trans hrc2)), (qr5 _ _ hs_rt8), ((xs_k hg13 (by decide)).trans ((hg6 rt8 9 0 2 hs_rt8 (by decide)).trans hrc4)), (qr5 _ _ hs_wy8), ((xs_k hg13 (by decide)).trans ez12), by omega, by omega, rfl, ((xs_k hg13 (by decide)).trans ((hg6 a0 12 0 2 hs_a0 (by decide)).trans hrc10)), (qr5 _ _ hs_ct8), ((xs_k hg13 (by decide)).trans ((hg6 ct8 4 0 6 hs_ct8 (by decide)).trans hrc12)), (xQm_u (xQm_m hQ8 hg6 qr5 (by decide)) hg13 (qr5 _ _ hs_w0) (by decide))⟩, (Or.inr ⟨by omega, (by rw [← hY8, (xv_a hg13 (xne (qr5 _ _ hs_wy8) (qr5 _ _ hs_w0) (by decide)))]; exact kz12)⟩)⟩⟩ (by omega) (by omega)

set_option maxHeartbeats 4000000 in
set_option maxRecDepth 100000 in
theorem c3_truckAt (l : Launch) (D : va_G) (kA : Nat → ClassId) (b0 : Nat) (t0 : Nat → Nat) (S : xT) (g : xG) (a0 : Nat) (x1 : Int) (n8 : Int) (Y8 : Int → Int) (Q8 : Int → Int → Int) (hs_a0 : S a0 = some (12, 0)) (hx1 : (-2147483648) ≤ x1 ∧ x1 ≤ 2147483647) (hp0 : xRc S g a0 n8 Y8 Q8) : xMt l yX11_truckAt cX11_truckAt 2 (some .int) 1 0 0 22 D kA b0 t0 [] [.ref a0, .int (iI x1)] S g (fun (r : Option Value) (S1 : xT) (g1 : xG) => S = S1 ∧ g = g1 ∧ ∃ z : Int, r = some (.int (iI z)) ∧ (-1) ≤ z ∧ z ≤ 9 ∧ (z = if 0 ≤ x1 ∧ x1 < n8 then Y8 x1 else -1)) := by
  refine xEnterI (by decide) (by simp [lg_sl, Value.category]) [(0, .ref a0), (1, .int (iI x1))] rfl ?_
  intro K E hK hret _ _ _
  refine X_iloadn hK (i := 1) 1 kd38_53.2.2.2.2.2.2.2.2.2.1 rfl rfl ?_
  obtain ⟨rt8, wy8, ct8, mg8, hrc1, hrc2, hs_rt8, hrc4, hs_wy8, hrc6, hrc7, hrc8, hY8, hrc10, hs_ct8, hrc12, hQ8⟩ := hp0
  refine X_iconst hK kd38_53.2.2.2.2.2.2.2.2.2.2.1 ?_
  refine X_aloadn hK (i := 0) 0 kd38_53.2.2.2.2.2.2.2.2.2.2.2 rfl rfl ?_
  refine X_getK hK fl_X11_69_12 hs_a0 hrc2 kd38_54.1 ?_
  refine X_getK hK fl_X11_343_9 hs_rt8 hrc6 kd38_54.2.1 ?_
  refine X_iconst hK kd38_54.2.2.1 ?_
  refine X_isub hK kd38_54.2.2.2.1 ?_
  refine X_callS hK [.int (iI x1), .int (iI 0), .int (iI (n8 - 1))] [] lk_X11_115 (c_X11_within _ _ _ _ _ S g x1 0 (n8 - 1) (by omega) (by omega) (by omega)) kd38_54.2.2.2.2.1 rfl rfl (by simp [Value.category]) (by decide) (by decide) (by decide) (by decide) (fun r1 S3 g2 pr1 qr1 hg2 => ?_)
  obtain ⟨rfl, rfl, z4, rfl, lz4, uz4, k5⟩ := pr1
  refine X_st [.int (iI z4)] rfl ?_
  refine X_if_eq hK 29 (by omega) kd38_54.2.2.2.2.2.1 (by decide) (fun c6 => ?_) (fun c6 => ?_)
  · refine X_iconst hK kd38_55.1 ?_
    exact hret _ _ _ _ _ _ _ kd38_55.2.1 ⟨rfl, rfl, (-1), rfl, (by omega), (by omega), (by rw [if_neg (by omega)])⟩ (Nat.le_refl _) (Nat.le_refl _)
  · refine X_aloadn hK (i := 0) 0 kd38_54.2.2.2.2.2.2.1 rfl rfl ?_
    refine X_getK hK fl_X11_69_12 hs_a0 hrc2 kd38_54.2.2.2.2.2.2.2.1 ?_
    refine X_getK hK fl_X11_346_9 hs_rt8 hrc4 kd38_54.2.2.2.2.2.2.2.2.1 ?_
    refine X_iloadn hK (i := 1) 1 kd38_54.2.2.2.2.2.2.2.2.2.1 rfl rfl ?_
    refine X_iald hK hs_wy8 (by decide) sl_13300 (by omega) (by omega) kd38_54.2.2.2.2.2.2.2.2.2.2.1 (fun z7 ez7 lz7 uz7 => ?_)
    have hr8 : Y8 x1 = z7 := by rw [← hY8]; exact xv_e (j := x1) ez7 (by omega)
    refine X_goto hK 30 kd38_54.2.2.2.2.2.2.2.2.2.2.2 (by decide) ?_
    exact hret _ _ _ _ _ _ _ kd38_55.2.1 ⟨rfl, rfl, z7, rfl, (by omega), (by omega), (by rw [if_pos (by omega), hr8])⟩ (Nat.le_refl _) (Nat.le_refl _)

set_option maxHeartbeats 4000000 in
set_option maxRecDepth 100000 in
theorem c3_layWays (l : Launch) (D : va_G) (kA : Nat → ClassId) (b0 : Nat) (t0 : Nat → Nat) (S : xT) (g : xG) (a0 : Nat) (wr : Nat) (i8 : Int) (Q8 : Int → Int → Int) (hs_a0 : S a0 = some (13, 0)) (ewr : g a0 15 = .ref wr) (hs_wr : S wr = some (15200, 100)) (hi8 : 0 ≤ i8 ∧ i8 ≤ 1) (ei8 : g a0 18 = .int (iI i8)) (hp0 : (i8 = 0 ∧ xQ0 Q8) ∨ (i8 = 1 ∧ xQr (xv g wr) Q8)) : xMt l yX12_layWays cX12_layWays 2 none 0 0 0 0 D kA b0 t0 [(13, 18), (15200, 0)] [.ref a0] S g (fun (r : Option Value) (S1 : xT) (g1 : xG) => S = S1 ∧ r = none ∧ (g1 a0 18 = .int (iI (1))) ∧ (xQr (xv g1 wr) Q8)) := by
  refine xEnterV (by decide) (by simp [lg_sl, Value.category]) [(0, .ref a0)] rfl ?_
  intro K E hK hret _ _ _
  refine X_aloadn hK (i := 0) 0 kd28_104.2.2.2.2.2.2.1 rfl rfl ?_
  refine X_getK hK fl_X12_246_13 hs_a0 ei8 kd28_104.2.2.2.2.2.2.2.1 ?_
  refine X_if_eq hK 8 (by omega) kd28_104.2.2.2.2.2.2.2.2.1 (by decide) (fun c1 => ?_) (fun c1 => ?_)
  · refine X_aloadn hK (i := 0) 0 kd28_104.2.2.2.2.2.2.2.2.2.2.1 rfl rfl ?_
    refine X_iconst hK kd28_104.2.2.2.2.2.2.2.2.2.2.2 ?_
    refine X_putz hK fl_X12_246_13 hs_a0 (by decide) sl_13_18 (by omega) (by omega) kd28_105.1 (fun g2 hg2 => ?_)
    refine X_iconst hK kd28_105.2.1 ?_
    refine X_istoren hK (i := 1) [(1, .int (iI 0)), (0, .ref a0)] kd28_105.2.2.1 rfl (by decide) rfl ?_
    have P43 : ∀ (nP43 : Nat) (g37 : xG) (_ : xM [(15200, 0)] S g2 g37) (z36 : Int) (_ : 0 ≤ z36) (_ : z36 ≤ 100) (_ : ∀ j9, 0 ≤ j9 → j9 < z36 → xv g37 wr j9 = if j9 % 11 = 0 then 0 else 10) (_ : 116 - z36 < (nP43 : Int)), X K E 15 [(1, .int (iI z36)), (0, .ref a0)] [] S g37 0 0 := by
      intro nP43
      induction nP43 with
      | zero => intro g37 hg37 z36 lz36 uz36 v44 mP43; exact False.elim (by omega)
      | succ nP43 ihP43 =>
        intro g37 hg37 z36 lz36 uz36 v44 mP43
        refine X_iloadn hK (i := 1) 0 kd28_105.2.2.2.1 rfl rfl ?_
        refine X_bipush hK kd28_105.2.2.2.2.1 (by decide) ?_
        refine X_icmp_ge hK 46 (by omega) (by omega) kd28_105.2.2.2.2.2.1 (by decide) (fun c45 => ?_) (fun c45 => ?_)
        · exact hret _ _ _ _ _ _ kd28_106.2.2.2.2.2.2.2.1 ⟨rfl, rfl, (((hg37 a0 13 0 18 hs_a0 (by decide)).trans (xs_s hg2)).trans (by congr 2 <;> omega)), (fun x9 y9 q1 q2 q3 q4 => by have h9 : xQ0 Q8 := (by rcases hp0 with q9 | q9; exact q9.2; omega); rw [v44 (10 * x9 + y9) (by omega) (by omega), h9 x9 y9 q1 q2 q3 q4]; by_cases c9 : x9 = y9; (rw [if_pos c9, if_pos (by omega)]); (rw [if_neg c9, if_neg (by omega)]))⟩ (Nat.le_refl _) (Nat.le_refl _)
        · refine X_aloadn hK (i := 0) 1 kd28_105.2.2.2.2.2.2.1 rfl rfl ?_
          refine X_getK hK fl_X12_47_13 hs_a0 ((hg37 a0 13 0 15 hs_a0 (by decide)).trans ((xs_k hg2 (by decide)).trans ewr)) kd28_105.2.2.2.2.2.2.2.1 ?_
          refine X_iloadn hK (i := 1) 0 kd28_105.2.2.2.2.2.2.2.2.1 rfl rfl ?_
          refine X_iloadn hK (i := 1) 0 kd28_105.2.2.2.2.2.2.2.2.2.1 rfl rfl ?_
          refine X_bipush hK kd28_105.2.2.2.2.2.2.2.2.2.2.1 (by decide) ?_
          refine X_irem hK (by omega) (by omega) kd28_105.2.2.2.2.2.2.2.2.2.2.2 (fun z46 wz46 ez46 fz46 hz46 => ?_)
          have bz46 : 0 ≤ z46 ∧ z46 ≤ 10 := by omega
          refine X_if_ne hK 37 (by omega) kd28_106.1 (by decide) (fun c47 => ?_) (fun c47 => ?_)
          · refine X_bipush hK kd28_106.2.2.2.1 (by decide) ?_
            refine X_iast hK hs_wr (by decide) (by decide) sl_15200 (by omega) (by omega) (by omega) (by omega) kd28_106.2.2.2.2.1 (fun g48 hg48 => ?_)
            refine X_iinc hK (i := 1) (z := z36) (n := 1) 0 [(1, .int (iI (z36 + 1))), (0, .ref a0)] kd28_106.2.2.2.2.2.1 rfl (by decide) rfl ?_
            refine X_goto hK 15 kd28_106.2.2.2.2.2.2.1 (by decide) ?_
            exact ihP43  g48 (xM_ua (xM.tr xM.rf xLe.rf hg37 (by decide)) hg48 hs_wr (by decide) (by decide)) (z36 + 1) (by omega) (by omega) (fun j9 q1 q2 => by by_cases e9 : j9 = z36; (rw [e9, (show xv g48 wr z36 = 10 from by rw [xv_s hg48 (by omega)])]; first | rw [if_pos (by omega)] | rw [if_neg (by omega)]); (rw [(show xv g48 wr j9 = xv g37 wr j9 from by rw [(xv_k (i := j9) hg48 (by omega) (by omega) (by omega))])]; exact v44 j9 q1 (by omega))) (by omega)
          · refine X_iconst hK kd28_106.2.1 ?_
            refine X_goto hK 39 kd28_106.2.2.1 (by decide) ?_
            refine X_iast hK hs_wr (by decide) (by decide) sl_15200 (by omega) (by omega) (by omega) (by omega) kd28_106.2.2.2.2.1 (fun g49 hg49 => ?_)
            refine X_iinc hK (i := 1) (z := z36) (n := 1) 0 [(1, .int (iI (z36 + 1))), (0, .ref a0)] kd28_106.2.2.2.2.2.1 rfl (by decide) rfl ?_
            refine X_goto hK 15 kd28_106.2.2.2.2.2.2.1 (by decide) ?_
            exact ihP43  g49 (xM_ua (xM.tr xM.rf xLe.rf hg37 (by decide)) hg49 hs_wr (by decide) (by decide)) (z36 + 1) (by omega) (by omega) (fun j9 q1 q2 => by by_cases e9 : j9 = z36; (rw [e9, (show xv g49 wr z36 = 0 from by rw [xv_s hg49 (by omega)])]; first | rw [if_pos (by omega)] | rw [if_neg (by omega)]); (rw [(show xv g49 wr j9 = xv g37 wr j9 from by rw [(xv_k (i := j9) hg49 (by omega) (by omega) (by omega))])]; exact v44 j9 q1 (by omega))) (by omega)
    exact P43 ((116 - 0 : Int).toNat + 1) g2 xM.rf 0 (by omega) (by omega) (fun j9 q1 q2 => by omega) (by omega)
  · exact hret _ _ _ _ _ _ kd28_104.2.2.2.2.2.2.2.2.2.1 ⟨rfl, rfl, (ei8.trans (by congr 2 <;> omega)), (by rcases hp0 with q9 | q9; omega; exact q9.2)⟩ (Nat.le_refl _) (Nat.le_refl _)

set_option maxHeartbeats 4000000 in
set_option maxRecDepth 100000 in
theorem c3_mminutes (l : Launch) (D : va_G) (kA : Nat → ClassId) (b0 : Nat) (t0 : Nat → Nat) (S : xT) (g : xG) (a0 : Nat) (x1 : Int) (x2 : Int) (x3 : Int) (n8 : Int) (Y8 : Int → Int) (Q8 : Int → Int → Int) (hs_a0 : S a0 = some (13, 0)) (hx1 : (-2147483648) ≤ x1 ∧ x1 ≤ 2147483647) (hx2 : (-2147483648) ≤ x2 ∧ x2 ≤ 2147483647) (hx3 : (-2147483648) ≤ x3 ∧ x3 ≤ 2147483647) (hp0 : xRm S g a0 n8 Y8 Q8) : xMt l yX12_minutes cX12_minutes 4 (some .boolean) 1 0 0 22 D kA b0 t0 [(13, 0), (13, 18), (15200, 0)] [.ref a0, .int (iI x1), .int (iI x2), .int (iI x3)] S g (fun (r : Option Value) (S1 : xT) (g1 : xG) => S = S1 ∧ ∃ z : Int, r = some (.int (iI z)) ∧ 0 ≤ z ∧ z ≤ 1 ∧ ((z = 1 ↔ 0 ≤ x1 ∧ x1 ≤ 9 ∧ 0 ≤ x2 ∧ x2 ≤ 9 ∧ x1 ≠ x2 ∧ 1 ≤ x3 ∧ x3 ≤ 200)) ∧ (xRm S g1 a0 n8 Y8 (if z = 1 then xQud Q8 x1 x2 x3 else Q8))) := by
  refine xEnterZ (by decide) (by simp [lg_sl, Value.category]) [(0, .ref a0), (1, .int (iI x1)), (2, .int (iI x2)), (3, .int (iI x3))] rfl ?_
  intro K E hK hret _ _ _
  refine X_aloadn hK (i := 0) 0 kd28_106.2.2.2.2.2.2.2.2.1 rfl rfl ?_
  obtain ⟨ty8, wr8, m8, z8, i8, hrm1, hrm2, hs_ty8, hrm4, hrm5, hrm6, hrm7, hrm8, hY8, hrm10, hs_wr8, hrm12, hrm13⟩ := hp0
  have hi8 : 0 ≤ i8 ∧ i8 ≤ 1 := by rcases hrm13 with q9 | q9 <;> omega
  have hz8 : 0 ≤ z8 ∧ z8 ≤ 1 := by omega
  refine X_iconst hK kd28_106.2.2.2.2.2.2.2.2.2.1 ?_
  refine X_puti hK fl_X12_198_13 hs_a0 (by decide) sl_13_0 (by omega) (by omega) kd28_106.2.2.2.2.2.2.2.2.2.2.1 (fun g1 hg1 => ?_)
  refine X_iloadn hK (i := 1) 1 kd28_106.2.2.2.2.2.2.2.2.2.2.2 rfl rfl ?_
  refine X_callS hK [.int (iI x1)] [] lk_X12_219 (c_X12_isCorner _ _ _ _ _ S g1 x1 (by omega)) kd28_107.1 rfl rfl (by simp [Value.category]) (by decide) (by decide) (by decide) (by decide) (fun r2 S4 g3 pr2 qr2 hg3 => ?_)
  obtain ⟨rfl, rfl, z5, rfl, lz5, uz5, k6⟩ := pr2
  refine X_st [.int (iI z5)] rfl ?_
  refine X_if_eq hK 35 (by omega) kd28_107.2.1 (by decide) (fun c7 => ?_) (fun c7 => ?_)
  · refine X_iconst hK kd28_108.2.1 ?_
    exact hret _ _ _ _ _ _ _ kd28_108.2.2.1 (by omega) (by omega) ⟨rfl, 0, rfl, (by omega), (by omega), (by omega), (by rw [if_neg (by omega)]; exact ⟨ty8, wr8, m8, z8, i8, hs_a0, ((xs_k hg1 (by decide)).trans hrm2), hs_ty8, ((xs_k hg1 (by decide)).trans hrm4), by omega, by omega, ((xs_k hg1 (by decide)).trans hrm7), hrm8, ((xv_a hg1 (xne hs_ty8 hs_a0 (by decide))).trans hY8), ((xs_k hg1 (by decide)).trans hrm10), hs_wr8, ((xs_k hg1 (by decide)).trans hrm12), (by rw [(xv_a hg1 (xne hs_wr8 hs_a0 (by decide)))]; exact hrm13)⟩)⟩ (Nat.le_refl _) (Nat.le_refl _)
  · refine X_iloadn hK (i := 2) 2 kd28_107.2.2.1 rfl rfl ?_
    refine X_callS hK [.int (iI x2)] [] lk_X12_219 (c_X12_isCorner _ _ _ _ _ S g1 x2 (by omega)) kd28_107.2.2.2.1 rfl rfl (by simp [Value.category]) (by decide) (by decide) (by decide) (by decide) (fun r8 S10 g9 pr8 qr8 hg9 => ?_)
    obtain ⟨rfl, rfl, z11, rfl, lz11, uz11, k12⟩ := pr8
    refine X_st [.int (iI z11)] rfl ?_
    refine X_if_eq hK 35 (by omega) kd28_107.2.2.2.2.1 (by decide) (fun c13 => ?_) (fun c13 => ?_)
    · refine X_iconst hK kd28_108.2.1 ?_
      exact hret _ _ _ _ _ _ _ kd28_108.2.2.1 (by omega) (by omega) ⟨rfl, 0, rfl, (by omega), (by omega), (by omega), (by rw [if_neg (by omega)]; exact ⟨ty8, wr8, m8, z8, i8, hs_a0, ((xs_k hg1 (by decide)).trans hrm2), hs_ty8, ((xs_k hg1 (by decide)).trans hrm4), by omega, by omega, ((xs_k hg1 (by decide)).trans hrm7), hrm8, ((xv_a hg1 (xne hs_ty8 hs_a0 (by decide))).trans hY8), ((xs_k hg1 (by decide)).trans hrm10), hs_wr8, ((xs_k hg1 (by decide)).trans hrm12), (by rw [(xv_a hg1 (xne hs_wr8 hs_a0 (by decide)))]; exact hrm13)⟩)⟩ (Nat.le_refl _) (Nat.le_refl _)
    · refine X_iloadn hK (i := 1) 1 kd28_107.2.2.2.2.2.1 rfl rfl ?_
      refine X_iloadn hK (i := 2) 2 kd28_107.2.2.2.2.2.2.1 rfl rfl ?_
      refine X_icmp_eq hK 35 (by omega) (by omega) kd28_107.2.2.2.2.2.2.2.1 (by decide) (fun c14 => ?_) (fun c14 => ?_)
      · refine X_iconst hK kd28_108.2.1 ?_
        exact hret _ _ _ _ _ _ _ kd28_108.2.2.1 (by omega) (by omega) ⟨rfl, 0, rfl, (by omega), (by omega), (by omega), (by rw [if_neg (by omega)]; exact ⟨ty8, wr8, m8, z8, i8, hs_a0, ((xs_k hg1 (by decide)).trans hrm2), hs_ty8, ((xs_k hg1 (by decide)).trans hrm4), by omega, by omega, ((xs_k hg1 (by decide)).trans hrm7), hrm8, ((xv_a hg1 (xne hs_ty8 hs_a0 (by decide))).trans hY8), ((xs_k hg1 (by decide)).trans hrm10), hs_wr8, ((xs_k hg1 (by decide)).trans hrm12), (by rw [(xv_a hg1 (xne hs_wr8 hs_a0 (by decide)))]; exact hrm13)⟩)⟩ (Nat.le_refl _) (Nat.le_refl _)
      · refine X_iloadn hK (i := 3) 3 kd28_107.2.2.2.2.2.2.2.2.1 rfl rfl ?_
        refine X_iconst hK kd28_107.2.2.2.2.2.2.2.2.2.1 ?_
        refine X_sipush hK kd28_107.2.2.2.2.2.2.2.2.2.2.1 (by decide) ?_
        refine X_callS hK [.int (iI x3), .int (iI 1), .int (iI 200)] [] lk_X12_211 (c_X12_isIn _ _ _ _ _ S g1 x3 1 200 (by omega) (by omega) (by omega)) kd28_107.2.2.2.2.2.2.2.2.2.2.2 rfl rfl (by simp [Value.category]) (by decide) (by decide) (by decide) (by decide) (fun r15 S17 g16 pr15 qr15 hg16 => ?_)
        obtain ⟨rfl, rfl, z18, rfl, lz18, uz18, k19⟩ := pr15
        refine X_st [.int (iI z18)] rfl ?_
        refine X_if_ne hK 37 (by omega) kd28_108.1 (by decide) (fun c20 => ?_) (fun c20 => ?_)
        · refine X_aloadn hK (i := 0) 0 kd28_108.2.2.2.1 rfl rfl ?_
          refine X_callV hK [] [] lk_X12_250 (c3_layWays _ _ _ _ _ S g1 a0 wr8 i8 Q8 hs_a0 ((xs_k hg1 (by decide)).trans hrm10) hs_wr8 (by omega) ((xs_k hg1 (by decide)).trans hrm12) (by rw [(xv_a hg1 (xne hs_wr8 hs_a0 (by decide)))]; exact hrm13)) hs_a0 ⟨by decide, rfl⟩ kd28_108.2.2.2.2.1 rfl rfl (by simp [Value.category]) (by decide) (by decide) (by decide) (by decide) (fun r21 S23 g22 pr21 qr21 hg22 => ?_)
          obtain ⟨rfl, rfl, k24, k25⟩ := pr21
          refine X_st [] rfl ?_
          refine X_aloadn hK (i := 0) 0 kd28_108.2.2.2.2.2.1 rfl rfl ?_
          refine X_getK hK fl_X12_47_13 hs_a0 ((hg22 a0 13 0 15 hs_a0 (by decide)).trans ((xs_k hg1 (by decide)).trans hrm10)) kd28_108.2.2.2.2.2.2.1 ?_
          refine X_bipush hK kd28_108.2.2.2.2.2.2.2.1 (by decide) ?_
          refine X_iloadn hK (i := 1) 1 kd28_108.2.2.2.2.2.2.2.2.1 rfl rfl ?_
          refine X_imul hK kd28_108.2.2.2.2.2.2.2.2.2.1 ?_
          refine X_iloadn hK (i := 2) 2 kd28_108.2.2.2.2.2.2.2.2.2.2.1 rfl rfl ?_
          refine X_iadd hK kd28_108.2.2.2.2.2.2.2.2.2.2.2 ?_
          refine X_iloadn hK (i := 3) 3 kd28_109.1 rfl rfl ?_
          refine X_iast hK hs_wr8 (by decide) (by decide) sl_15200 (by omega) (by omega) (by omega) (by omega) kd28_109.2.1 (fun g26 hg26 => ?_)
          refine X_aloadn hK (i := 0) 0 kd28_109.2.2.1 rfl rfl ?_
          refine X_getK hK fl_X12_47_13 hs_a0 ((xs_a hg26 (xne hs_a0 hs_wr8 (by decide))).trans ((hg22 a0 13 0 15 hs_a0 (by decide)).trans ((xs_k hg1 (by decide)).trans hrm10))) kd28_109.2.2.2.1 ?_
          refine X_bipush hK kd28_109.2.2.2.2.1 (by decide) ?_
          refine X_iloadn hK (i := 2) 2 kd28_109.2.2.2.2.2.1 rfl rfl ?_
          refine X_imul hK kd28_109.2.2.2.2.2.2.1 ?_
          refine X_iloadn hK (i := 1) 1 kd28_109.2.2.2.2.2.2.2.1 rfl rfl ?_
          refine X_iadd hK kd28_109.2.2.2.2.2.2.2.2.1 ?_
          refine X_iloadn hK (i := 3) 3 kd28_109.2.2.2.2.2.2.2.2.2.1 rfl rfl ?_
          refine X_iast hK hs_wr8 (by decide) (by decide) sl_15200 (by omega) (by omega) (by omega) (by omega) kd28_109.2.2.2.2.2.2.2.2.2.2.1 (fun g27 hg27 => ?_)
          refine X_iconst hK kd28_109.2.2.2.2.2.2.2.2.2.2.2 ?_
          exact hret _ _ _ _ _ _ _ kd28_110.1 (by omega) (by omega) ⟨rfl, 1, rfl, (by omega), (by omega), (by omega), (by rw [if_pos rfl]; exact ⟨ty8, wr8, m8, z8, 1, hs_a0, ((xs_a hg27 (xne hs_a0 hs_wr8 (by decide))).trans ((xs_a hg26 (xne hs_a0 hs_wr8 (by decide))).trans ((hg22 a0 13 0 84 hs_a0 (by decide)).trans ((xs_k hg1 (by decide)).trans hrm2)))), hs_ty8, ((xs_a hg27 (xne hs_a0 hs_wr8 (by decide))).trans ((xs_a hg26 (xne hs_a0 hs_wr8 (by decide))).trans ((hg22 a0 13 0 87 hs_a0 (by decide)).trans ((xs_k hg1 (by decide)).trans hrm4)))), by omega, by omega, ((xs_a hg27 (xne hs_a0 hs_wr8 (by decide))).trans ((xs_a hg26 (xne hs_a0 hs_wr8 (by decide))).trans ((hg22 a0 13 0 88 hs_a0 (by decide)).trans ((xs_k hg1 (by decide)).trans hrm7)))), hrm8, ((Eq.trans (Eq.trans (Eq.trans (xv_a hg27 (xne hs_ty8 hs_wr8 (by decide))) (xv_a hg26 (xne hs_ty8 hs_wr8 (by decide)))) (xv_m hg22 hs_ty8 (by decide) (by decide))) (xv_a hg1 (xne hs_ty8 hs_a0 (by decide)))).trans hY8), ((xs_a hg27 (xne hs_a0 hs_wr8 (by decide))).trans ((xs_a hg26 (xne hs_a0 hs_wr8 (by decide))).trans ((hg22 a0 13 0 15 hs_a0 (by decide)).trans ((xs_k hg1 (by decide)).trans hrm10)))), hs_wr8, ((xs_a hg27 (xne hs_a0 hs_wr8 (by decide))).trans ((xs_a hg26 (xne hs_a0 hs_wr8 (by decide))).trans k24)), (Or.inr ⟨rfl, fun x9 y9 q1 q2 q3 q4 => by show _ = if _ then _ else _; by_cases c9 : (x9 = x1 ∧ y9 = x2) ∨ (x9 = x2 ∧ y9 = x1); (rw [if_pos c9]; rcases c9 with c9 | c9; (rw [show 10 * x9 + y9 = ((10 * x1) + x2) by omega]; exact (show xv g27 wr8 ((10 * x1) + x2) = x3 from by rw [(xv_k (i := ((10 * x1) + x2)) hg27 (by omega) (by omega) (by omega)), xv_s hg26 (by omega)])); (rw [show 10 * x9 + y9 = ((10 * x2) + x1) by omega]; exact (show xv g27 wr8 ((10 * x2) + x1) = x3 from by rw [xv_s hg27 (by omega)]))); (rw [if_neg c9, (show xv g27 wr8 (10 * x9 + y9) = xv g22 wr8 (10 * x9 + y9) from by rw [(xv_k (i := (10 * x9 + y9)) hg27 (by omega) (by omega) (by omega)), (xv_k (i := (10 * x9 + y9)) hg26 (by omega) (by omega) (by omega))])]; exact k25 x9 y9 q1 q2 q3 q4)⟩)⟩)⟩ (Nat.le_refl _) (Nat.le_refl _)
        · refine X_iconst hK kd28_108.2.1 ?_
          exact hret _ _ _ _ _ _ _ kd28_108.2.2.1 (by omega) (by omega) ⟨rfl, 0, rfl, (by omega), (by omega), (by omega), (by rw [if_neg (by omega)]; exact ⟨ty8, wr8, m8, z8, i8, hs_a0, ((xs_k hg1 (by decide)).trans hrm2), hs_ty8, ((xs_k hg1 (by decide)).trans hrm4), by omega, by omega, ((xs_k hg1 (by decide)).trans hrm7), hrm8, ((xv_a hg1 (xne hs_ty8 hs_a0 (by decide))).trans hY8), ((xs_k hg1 (by decide)).trans hrm10), hs_wr8, ((xs_k hg1 (by decide)).trans hrm12), (by rw [(xv_a hg1 (xne hs_wr8 hs_a0 (by decide)))]; exact hrm13)⟩)⟩ (Nat.le_refl _) (Nat.le_refl _)

set_option maxHeartbeats 4000000 in
set_option maxRecDepth 100000 in
theorem c3_mtruckAt (l : Launch) (D : va_G) (kA : Nat → ClassId) (b0 : Nat) (t0 : Nat → Nat) (S : xT) (g : xG) (a0 : Nat) (x1 : Int) (n8 : Int) (Y8 : Int → Int) (Q8 : Int → Int → Int) (hs_a0 : S a0 = some (13, 0)) (hx1 : (-2147483648) ≤ x1 ∧ x1 ≤ 2147483647) (hp0 : xRm S g a0 n8 Y8 Q8) : xMt l yX12_truckAt cX12_truckAt 2 (some .int) 0 0 0 0 D kA b0 t0 [(13, 0)] [.ref a0, .int (iI x1)] S g (fun (r : Option Value) (S1 : xT) (g1 : xG) => S = S1 ∧ ∃ z : Int, r = some (.int (iI z)) ∧ (-1) ≤ z ∧ z ≤ 9 ∧ (z = if 0 ≤ x1 ∧ x1 < n8 then Y8 x1 else -1)) := by
  refine xEnterI (by decide) (by simp [lg_sl, Value.category]) [(0, .ref a0), (1, .int (iI x1))] rfl ?_
  intro K E hK hret _ _ _
  refine X_aloadn hK (i := 0) 0 kd28_148.2.2.2.1 rfl rfl ?_
  obtain ⟨ty8, wr8, m8, z8, i8, hrm1, hrm2, hs_ty8, hrm4, hrm5, hrm6, hrm7, hrm8, hY8, hrm10, hs_wr8, hrm12, hrm13⟩ := hp0
  have hi8 : 0 ≤ i8 ∧ i8 ≤ 1 := by rcases hrm13 with q9 | q9 <;> omega
  have hz8 : 0 ≤ z8 ∧ z8 ≤ 1 := by omega
  refine X_iconst hK kd28_148.2.2.2.2.1 ?_
  refine X_puti hK fl_X12_198_13 hs_a0 (by decide) sl_13_0 (by omega) (by omega) kd28_148.2.2.2.2.2.1 (fun g1 hg1 => ?_)
  refine X_aloadn hK (i := 0) 0 kd28_148.2.2.2.2.2.2.1 rfl rfl ?_
  refine X_getK hK fl_X12_477_13 hs_a0 ((xs_k hg1 (by decide)).trans hrm7) kd28_148.2.2.2.2.2.2.2.1 ?_
  refine X_if_eq hK 33 (by omega) kd28_148.2.2.2.2.2.2.2.2.1 (by decide) (fun c2 => ?_) (fun c2 => ?_)
  · refine X_iconst hK kd28_149.2.2.2.2.2.2.2.2.1 ?_
    exact hret _ _ _ _ _ _ _ kd28_149.2.2.2.2.2.2.2.2.2.1 ⟨rfl, (-1), rfl, (by omega), (by omega), (by rw [if_neg (by omega)])⟩ (Nat.le_refl _) (Nat.le_refl _)
  · refine X_iloadn hK (i := 1) 1 kd28_148.2.2.2.2.2.2.2.2.2.1 rfl rfl ?_
    refine X_if_lt hK 33 (by omega) kd28_148.2.2.2.2.2.2.2.2.2.2.1 (by decide) (fun c3 => ?_) (fun c3 => ?_)
    · refine X_iconst hK kd28_149.2.2.2.2.2.2.2.2.1 ?_
      exact hret _ _ _ _ _ _ _ kd28_149.2.2.2.2.2.2.2.2.2.1 ⟨rfl, (-1), rfl, (by omega), (by omega), (by rw [if_neg (by omega)])⟩ (Nat.le_refl _) (Nat.le_refl _)
    · refine X_iloadn hK (i := 1) 1 kd28_148.2.2.2.2.2.2.2.2.2.2.2 rfl rfl ?_
      refine X_aloadn hK (i := 0) 0 kd28_149.1 rfl rfl ?_
      refine X_getK hK fl_X12_474_13 hs_a0 ((xs_k hg1 (by decide)).trans hrm4) kd28_149.2.1 ?_
      refine X_icmp_ge hK 33 (by omega) (by omega) kd28_149.2.2.1 (by decide) (fun c4 => ?_) (fun c4 => ?_)
      · refine X_iconst hK kd28_149.2.2.2.2.2.2.2.2.1 ?_
        exact hret _ _ _ _ _ _ _ kd28_149.2.2.2.2.2.2.2.2.2.1 ⟨rfl, (-1), rfl, (by omega), (by omega), (by rw [if_neg (by omega)])⟩ (Nat.le_refl _) (Nat.le_refl _)
      · refine X_aloadn hK (i := 0) 0 kd28_149.2.2.2.1 rfl rfl ?_
        refine X_getK hK fl_X12_183_13 hs_a0 ((xs_k hg1 (by decide)).trans hrm2) kd28_149.2.2.2.2.1 ?_
        refine X_iloadn hK (i := 1) 1 kd28_149.2.2.2.2.2.1 rfl rfl ?_
        refine X_iald hK hs_ty8 (by decide) sl_19000 (by omega) (by omega) kd28_149.2.2.2.2.2.2.1 (fun z5 ez5 lz5 uz5 => ?_)
        have hr6 : Y8 x1 = z5 := by rw [← hY8, ← (xv_a hg1 (xne hs_ty8 hs_a0 (by decide)))]; exact xv_e (j := x1) ez5 (by omega)
        refine X_goto hK 34 kd28_149.2.2.2.2.2.2.2.1 (by decide) ?_
        exact hret _ _ _ _ _ _ _ kd28_149.2.2.2.2.2.2.2.2.2.1 ⟨rfl, z5, rfl, (by omega), (by omega), (by rw [if_pos (by omega), hr6])⟩ (Nat.le_refl _) (Nat.le_refl _)

set_option maxHeartbeats 4000000 in
set_option maxRecDepth 100000 in
theorem c3_comesAt (l : Launch) (D : va_G) (kA : Nat → ClassId) (b0 : Nat) (t0 : Nat → Nat) (S : xT) (g : xG) (a0 : Nat) (x1 : Int) (x2 : Int) (w85 : Nat) (w86 : Nat) (w83 : Nat) (wr : Nat) (n9 : Int) (Q9 : Int → Int → Int) (T9 : Int → Int) (hs_a0 : S a0 = some (13, 0)) (hx1 : 0 ≤ x1 ∧ x1 ≤ 8) (hx2 : 0 ≤ x2 ∧ x2 ≤ 8) (ew85 : g a0 85 = .ref w85) (hs_w85 : S w85 = some (19100, 10)) (ew86 : g a0 86 = .ref w86) (hs_w86 : S w86 = some (19200, 10)) (ew83 : g a0 83 = .ref w83) (hs_w83 : S w83 = some (18900, 10)) (ewr : g a0 15 = .ref wr) (hs_wr : S wr = some (15200, 100)) (hp0 : n9 ≤ 9) (hp1 : x1 < n9 ∧ x2 < n9) (hp2 : ∀ k, 0 ≤ k → k < n9 → xv g w83 k = T9 k ∧ 0 ≤ T9 k ∧ T9 k ≤ 9) (hp3 : xQr (xv g wr) Q9) (hp4 : x1 = 0 ∨ ((0 ≤ xv g w85 (x1 - 1) ∧ xv g w85 (x1 - 1) < n9) ∧ xv g w86 (x1 - 1) = xar (xF9 Q9 T9) (xW9 Q9 T9) (xv g w85) (x1 - 1).toNat ∧ 0 ≤ xv g w86 (x1 - 1) ∧ xv g w86 (x1 - 1) ≤ 65535)) : xMt l yX12_comesAt cX12_comesAt 3 (some .int) 0 0 0 0 D kA b0 t0 [] [.ref a0, .int (iI x1), .int (iI x2)] S g (fun (r : Option Value) (S1 : xT) (g1 : xG) => S = S1 ∧ g = g1 ∧ ∃ z : Int, r = some (.int (iI z)) ∧ 0 ≤ z ∧ z ≤ 65735 ∧ (xCo9 (xF9 Q9 T9) (xW9 Q9 T9) (xv g w85) x1 x2 z)) := by
  refine xEnterI (by decide) (by simp [lg_sl, Value.category]) [(0, .ref a0), (1, .int (iI x1)), (2, .int (iI x2))] rfl ?_
  intro K E hK hret _ _ _
  refine X_iloadn hK (i := 1) 1 kd48_1.2.2.2.2.2.2.2.2.2.1 rfl rfl ?_
  refine X_if_ne hK 8 (by omega) kd48_1.2.2.2.2.2.2.2.2.2.2.1 (by decide) (fun c1 => ?_) (fun c1 => ?_)
  · refine X_aloadn hK (i := 0) 0 kd48_2.2.1 rfl rfl ?_
    refine X_getK hK fl_X12_189_13 hs_a0 ew86 kd48_2.2.2.1 ?_
    refine X_iloadn hK (i := 1) 1 kd48_2.2.2.2.1 rfl rfl ?_
    refine X_iconst hK kd48_2.2.2.2.2.1 ?_
    refine X_isub hK kd48_2.2.2.2.2.2.1 ?_
    refine X_iald hK hs_w86 (by decide) sl_19200 (by omega) (by omega) kd48_2.2.2.2.2.2.2.1 (fun z2 ez2 lz2 uz2 => ?_)
    have hw3 : xv g w86 (x1 - 1) = z2 := (xv_e (j := (x1 - 1)) ez2 (by omega))
    have rhw3 := hp4.resolve_left (by omega); rw [hw3] at rhw3
    refine X_aloadn hK (i := 0) 0 kd48_2.2.2.2.2.2.2.2.1 rfl rfl ?_
    refine X_getK hK fl_X12_47_13 hs_a0 ewr kd48_2.2.2.2.2.2.2.2.2.1 ?_
    refine X_bipush hK kd48_2.2.2.2.2.2.2.2.2.2.1 (by decide) ?_
    refine X_iloadn hK (i := 1) 1 kd48_2.2.2.2.2.2.2.2.2.2.2.1 rfl rfl ?_
    refine X_if_ne hK 30 (by omega) kd48_2.2.2.2.2.2.2.2.2.2.2.2 (by decide) (fun c4 => ?_) (fun c4 => False.elim (by omega))
    refine X_aloadn hK (i := 0) 0 kd48_3.2.2.1 rfl rfl ?_
    refine X_getK hK fl_X12_180_13 hs_a0 ew83 kd48_3.2.2.2.1 ?_
    refine X_aloadn hK (i := 0) 0 kd48_3.2.2.2.2.1 rfl rfl ?_
    refine X_getK hK fl_X12_186_13 hs_a0 ew85 kd48_3.2.2.2.2.2.1 ?_
    refine X_iloadn hK (i := 1) 1 kd48_3.2.2.2.2.2.2.1 rfl rfl ?_
    refine X_iconst hK kd48_3.2.2.2.2.2.2.2.1 ?_
    refine X_isub hK kd48_3.2.2.2.2.2.2.2.2.1 ?_
    refine X_iald hK hs_w85 (by decide) sl_19100 (by omega) (by omega) kd48_3.2.2.2.2.2.2.2.2.2.1 (fun z5 ez5 lz5 uz5 => ?_)
    have hw6 : xv g w85 (x1 - 1) = z5 := (xv_e (j := (x1 - 1)) ez5 (by omega))
    have rhw6 := (hp4.resolve_left (by omega)).1; rw [hw6] at rhw6
    refine X_iald hK hs_w83 (by decide) sl_18900 (by omega) (by omega) kd48_3.2.2.2.2.2.2.2.2.2.2.1 (fun z7 ez7 lz7 uz7 => ?_)
    have ht8 : T9 z5 = z7 := (hp2 z5 (by omega) (by omega)).1.symm.trans (xv_e (j := z5) ez7 (by omega))
    refine X_imul hK kd48_3.2.2.2.2.2.2.2.2.2.2.2 ?_
    refine X_aloadn hK (i := 0) 0 kd48_4.1 rfl rfl ?_
    refine X_getK hK fl_X12_180_13 hs_a0 ew83 kd48_4.2.1 ?_
    refine X_iloadn hK (i := 2) 2 kd48_4.2.2.1 rfl rfl ?_
    refine X_iald hK hs_w83 (by decide) sl_18900 (by omega) (by omega) kd48_4.2.2.2.1 (fun z9 ez9 lz9 uz9 => ?_)
    have ht10 : T9 x2 = z9 := (hp2 x2 (by omega) (by omega)).1.symm.trans (xv_e (j := x2) ez9 (by omega))
    refine X_iadd hK kd48_4.2.2.2.2.1 ?_
    refine X_iald hK hs_wr (by decide) sl_15200 (by omega) (by omega) kd48_4.2.2.2.2.2.1 (fun z11 ez11 lz11 uz11 => ?_)
    have hw12 : xv g wr ((10 * z7) + z9) = z11 := (xv_e (j := ((10 * z7) + z9)) ez11 (by omega))
    refine X_iadd hK kd48_4.2.2.2.2.2.2.1 ?_
    exact hret _ _ _ _ _ _ _ kd48_4.2.2.2.2.2.2.2.1 ⟨rfl, rfl, (z2 + z11), rfl, (by omega), (by omega), (by unfold xCo9; rw [if_neg (by omega), ← (hp4.resolve_left (by omega)).2.1, hw3, hw6]; show _ = _ + Q9 (T9 z5) (T9 x2); rw [ht8, ht10, ← hp3 z7 z9 (by omega) (by omega) (by omega) (by omega), (show xv g wr (10 * z7 + z9) = z11 from (by have h9 := hw12; rw [show ((10 * z7) + z9) = 10 * z7 + z9 by omega] at h9; exact h9))])⟩ (Nat.le_refl _) (Nat.le_refl _)
  · refine X_iconst hK kd48_1.2.2.2.2.2.2.2.2.2.2.2 ?_
    refine X_goto hK 16 kd48_2.1 (by decide) ?_
    refine X_aloadn hK (i := 0) 0 kd48_2.2.2.2.2.2.2.2.1 rfl rfl ?_
    refine X_getK hK fl_X12_47_13 hs_a0 ewr kd48_2.2.2.2.2.2.2.2.2.1 ?_
    refine X_bipush hK kd48_2.2.2.2.2.2.2.2.2.2.1 (by decide) ?_
    refine X_iloadn hK (i := 1) 1 kd48_2.2.2.2.2.2.2.2.2.2.2.1 rfl rfl ?_
    refine X_if_ne hK 30 (by omega) kd48_2.2.2.2.2.2.2.2.2.2.2.2 (by decide) (fun c13 => False.elim (by omega)) (fun c13 => ?_)
    refine X_iconst hK kd48_3.1 ?_
    refine X_goto hK 43 kd48_3.2.1 (by decide) ?_
    refine X_imul hK kd48_3.2.2.2.2.2.2.2.2.2.2.2 ?_
    refine X_aloadn hK (i := 0) 0 kd48_4.1 rfl rfl ?_
    refine X_getK hK fl_X12_180_13 hs_a0 ew83 kd48_4.2.1 ?_
    refine X_iloadn hK (i := 2) 2 kd48_4.2.2.1 rfl rfl ?_
    refine X_iald hK hs_w83 (by decide) sl_18900 (by omega) (by omega) kd48_4.2.2.2.1 (fun z14 ez14 lz14 uz14 => ?_)
    have ht15 : T9 x2 = z14 := (hp2 x2 (by omega) (by omega)).1.symm.trans (xv_e (j := x2) ez14 (by omega))
    refine X_iadd hK kd48_4.2.2.2.2.1 ?_
    refine X_iald hK hs_wr (by decide) sl_15200 (by omega) (by omega) kd48_4.2.2.2.2.2.1 (fun z16 ez16 lz16 uz16 => ?_)
    have hw17 : xv g wr ((10 * 0) + z14) = z16 := (xv_e (j := ((10 * 0) + z14)) ez16 (by omega))
    refine X_iadd hK kd48_4.2.2.2.2.2.2.1 ?_
    exact hret _ _ _ _ _ _ _ kd48_4.2.2.2.2.2.2.2.1 ⟨rfl, rfl, (0 + z16), rfl, (by omega), (by omega), (by unfold xCo9; rw [if_pos (by omega)]; show _ = Q9 0 (T9 x2); rw [ht15, ← hp3 0 z14 (by omega) (by omega) (by omega) (by omega), (show xv g wr (10 * 0 + z14) = z16 from (by have h9 := hw17; rw [show ((10 * 0) + z14) = 10 * 0 + z14 by omega] at h9; exact h9))]; omega)⟩ (Nat.le_refl _) (Nat.le_refl _)

set_option maxHeartbeats 4000000 in
set_option maxRecDepth 100000 in
theorem c3_mayGo (l : Launch) (D : va_G) (kA : Nat → ClassId) (b0 : Nat) (t0 : Nat → Nat) (S : xT) (g : xG) (a0 : Nat) (x1 : Int) (x2 : Int) (x3 : Int) (x4 : Int) (w85 : Nat) (w86 : Nat) (w83 : Nat) (wr : Nat) (w82 : Nat) (n9 : Int) (Q9 : Int → Int → Int) (T9 : Int → Int) (Y9 : Int → Int) (hs_a0 : S a0 = some (13, 0)) (hx1 : 0 ≤ x1 ∧ x1 ≤ 8) (hx2 : 0 ≤ x2 ∧ x2 ≤ 8) (hx3 : 0 ≤ x3 ∧ x3 ≤ 511) (hx4 : 0 ≤ x4 ∧ x4 ≤ 100000) (ew85 : g a0 85 = .ref w85) (hs_w85 : S w85 = some (19100, 10)) (ew86 : g a0 86 = .ref w86) (hs_w86 : S w86 = some (19200, 10)) (ew83 : g a0 83 = .ref w83) (hs_w83 : S w83 = some (18900, 10)) (ewr : g a0 15 = .ref wr) (hs_wr : S wr = some (15200, 100)) (ew82 : g a0 82 = .ref w82) (hs_w82 : S w82 = some (18800, 10)) (hp0 : n9 ≤ 9) (hp1 : x1 < n9 ∧ x2 < n9) (hp2 : ∀ k, 0 ≤ k → k < n9 → xv g w83 k = T9 k ∧ 0 ≤ T9 k ∧ T9 k ≤ 9) (hp3 : xQr (xv g wr) Q9) (hp4 : x1 = 0 ∨ ((0 ≤ xv g w85 (x1 - 1) ∧ xv g w85 (x1 - 1) < n9) ∧ xv g w86 (x1 - 1) = xar (xF9 Q9 T9) (xW9 Q9 T9) (xv g w85) (x1 - 1).toNat ∧ 0 ≤ xv g w86 (x1 - 1) ∧ xv g w86 (x1 - 1) ≤ 65535)) (hp5 : ∀ k, 0 ≤ k → k < n9 → xv g w82 (T9 k) = Y9 k) : xMt l yX12_mayGo cX12_mayGo 6 (some .boolean) 1 0 0 22 D kA b0 t0 [] [.ref a0, .int (iI x1), .int (iI x2), .int (iI x3), .int (iI x4)] S g (fun (r : Option Value) (S1 : xT) (g1 : xG) => S = S1 ∧ g = g1 ∧ ∃ z : Int, r = some (.int (iI z)) ∧ 0 ≤ z ∧ z ≤ 1 ∧ (xMg (xF9 Q9 T9) (xW9 Q9 T9) (xv g w85) Y9 x1 x2 x3 x4 z)) := by
  refine xEnterZ (by decide) (by simp [lg_sl, Value.category]) [(0, .ref a0), (1, .int (iI x1)), (2, .int (iI x2)), (3, .int (iI x3)), (4, .int (iI x4))] rfl ?_
  intro K E hK hret _ _ _
  refine X_iloadn hK (i := 3) 3 kd48_4.2.2.2.2.2.2.2.2.1 rfl rfl ?_
  refine X_iloadn hK (i := 2) 2 kd48_4.2.2.2.2.2.2.2.2.2.1 rfl rfl ?_
  refine X_ishr hK kd48_4.2.2.2.2.2.2.2.2.2.2.1 (fun z1 ez1 lz1 uz1 => ?_)
  refine X_iconst hK kd48_4.2.2.2.2.2.2.2.2.2.2.2 ?_
  refine X_iand hK kd48_5.1 (fun z2 ez2 lz2 uz2 => ?_)
  have bz2 := xandB ez2 ⟨lz2, uz2⟩ (by omega)
  have htz2 := xtc_of (m := x3) (c := x2) (by omega) (by omega) ez1 ez2 (by omega)
  refine X_iconst hK kd48_5.2.1 ?_
  refine X_icmp_ne hK 11 (by omega) (by omega) kd48_5.2.2.1 (by decide) (fun c3 => ?_) (fun c3 => ?_)
  · refine X_aloadn hK (i := 0) 0 kd48_5.2.2.2.2.2.1 rfl rfl ?_
    refine X_iloadn hK (i := 1) 1 kd48_5.2.2.2.2.2.2.1 rfl rfl ?_
    refine X_iloadn hK (i := 2) 2 kd48_5.2.2.2.2.2.2.2.1 rfl rfl ?_
    refine X_callV hK [.int (iI x1), .int (iI x2)] [] lk_X12_471 (c3_comesAt _ _ _ _ _ S g a0 x1 x2 w85 w86 w83 wr n9 Q9 T9 hs_a0 (by omega) (by omega) ew85 hs_w85 ew86 hs_w86 ew83 hs_w83 ewr hs_wr (by omega) (by omega) hp2 hp3 hp4) hs_a0 ⟨by decide, rfl⟩ kd48_5.2.2.2.2.2.2.2.2.1 rfl rfl (by simp [Value.category]) (by decide) (by decide) (by decide) (by decide) (fun r4 S6 g5 pr4 qr4 hg5 => ?_)
    obtain ⟨rfl, rfl, z7, rfl, lz7, uz7, k8⟩ := pr4
    refine X_st [.int (iI z7)] rfl ?_
    refine X_istore hK (i := 5) [(5, .int (iI z7)), (0, .ref a0), (1, .int (iI x1)), (2, .int (iI x2)), (3, .int (iI x3)), (4, .int (iI x4))] kd48_5.2.2.2.2.2.2.2.2.2.1 (by decide) rfl ?_
    refine X_iload hK (i := 5) 0 kd48_5.2.2.2.2.2.2.2.2.2.2.1 rfl ?_
    refine X_aloadn hK (i := 0) 1 kd48_5.2.2.2.2.2.2.2.2.2.2.2 rfl rfl ?_
    refine X_getK hK fl_X12_177_13 hs_a0 ew82 kd48_6.1 ?_
    refine X_aloadn hK (i := 0) 1 kd48_6.2.1 rfl rfl ?_
    refine X_getK hK fl_X12_180_13 hs_a0 ew83 kd48_6.2.2.1 ?_
    refine X_iloadn hK (i := 2) 3 kd48_6.2.2.2.1 rfl rfl ?_
    refine X_iald hK hs_w83 (by decide) sl_18900 (by omega) (by omega) kd48_6.2.2.2.2.1 (fun z9 ez9 lz9 uz9 => ?_)
    have ht10 : T9 x2 = z9 := (hp2 x2 (by omega) (by omega)).1.symm.trans (xv_e (j := x2) ez9 (by omega))
    refine X_iald hK hs_w82 (by decide) sl_18800 (by omega) (by omega) kd48_6.2.2.2.2.2.1 (fun z11 ez11 lz11 uz11 => ?_)
    have hn12 : Y9 x2 = z11 := (by have h9 := hp5 x2 (by omega) (by omega); rw [ht10, (xv_e (j := z9) ez11 (by omega))] at h9; exact h9.symm)
    refine X_icmp_gt hK 46 (by omega) (by omega) kd48_6.2.2.2.2.2.2.1 (by decide) (fun c13 => ?_) (fun c13 => ?_)
    · refine X_iconst hK kd48_7.1 ?_
      exact hret _ _ _ _ _ _ _ kd48_7.2 (by omega) (by omega) ⟨rfl, rfl, 0, rfl, (by omega), (by omega), (Or.inr ⟨rfl, Or.inr ⟨z7, k8, by omega, (by rw [hn12]; omega)⟩⟩)⟩ (Nat.le_refl _) (Nat.le_refl _)
    · refine X_iload hK (i := 5) 0 kd48_6.2.2.2.2.2.2.2.1 rfl ?_
      refine X_iload hK (i := 4) 5 kd48_6.2.2.2.2.2.2.2.2.1 rfl ?_
      refine X_icmp_ge hK 46 (by omega) (by omega) kd48_6.2.2.2.2.2.2.2.2.2.1 (by decide) (fun c14 => ?_) (fun c14 => ?_)
      · refine X_iconst hK kd48_7.1 ?_
        exact hret _ _ _ _ _ _ _ kd48_7.2 (by omega) (by omega) ⟨rfl, rfl, 0, rfl, (by omega), (by omega), (Or.inr ⟨rfl, Or.inr ⟨z7, k8, by omega, (by rw [hn12]; omega)⟩⟩)⟩ (Nat.le_refl _) (Nat.le_refl _)
      · refine X_iconst hK kd48_6.2.2.2.2.2.2.2.2.2.2.1 ?_
        refine X_goto hK 47 kd48_6.2.2.2.2.2.2.2.2.2.2.2 (by decide) ?_
        exact hret _ _ _ _ _ _ _ kd48_7.2 (by omega) (by omega) ⟨rfl, rfl, 1, rfl, (by omega), (by omega), (Or.inl ⟨rfl, (by have h9 := htz2; have h8 := xtc01 x3.toNat x2.toNat; omega), z7, k8, by rw [hn12]; omega, by omega⟩)⟩ (Nat.le_refl _) (Nat.le_refl _)
  · refine X_iconst hK kd48_5.2.2.2.1 ?_
    exact hret _ _ _ _ _ _ _ kd48_5.2.2.2.2.1 (by omega) (by omega) ⟨rfl, rfl, 0, rfl, (by omega), (by omega), (Or.inr ⟨rfl, Or.inl (by have h9 := htz2; omega)⟩)⟩ (Nat.le_refl _) (Nat.le_refl _)
