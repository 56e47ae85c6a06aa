theorem m_49_9 : Cond.methodLink RX6 54 yX6_boyWithout ∈ wsL_law := ch_49 _ (List.mem_of_getElem? (i := 9) rfl)
theorem m_49_10 : Cond.instanceMethod yX6_boyWithout ∈ wsL_law := ch_49 _ (List.mem_of_getElem? (i := 10) rfl)
theorem m_49_11 : Cond.selects RX6 yX6_boyWithout yX6_boyWithout ∈ wsL_law := ch_49 _ (List.mem_of_getElem? (i := 11) rfl)
theorem m_49_12 : Cond.code yX6_boyWithout cX6_boyWithout 2 (some .int) ∈ wsL_law := ch_49 _ (List.mem_of_getElem? (i := 12) rfl)
theorem m_49_13 : Cond.methodLink RX6 58 yX6_dearestOf ∈ wsL_law := ch_49 _ (List.mem_of_getElem? (i := 13) rfl)
theorem m_49_14 : Cond.instanceMethod yX6_dearestOf ∈ wsL_law := ch_49 _ (List.mem_of_getElem? (i := 14) rfl)
theorem m_49_15 : Cond.selects RX6 yX6_dearestOf yX6_dearestOf ∈ wsL_law := ch_49 _ (List.mem_of_getElem? (i := 15) rfl)
theorem m_49_16 : Cond.code yX6_dearestOf cX6_dearestOf 5 (some .int) ∈ wsL_law := ch_49 _ (List.mem_of_getElem? (i := 16) rfl)
theorem m_49_17 : Cond.methodLink RX6 62 yX6_ask ∈ wsL_law := ch_49 _ (List.mem_of_getElem? (i := 17) rfl)
theorem m_49_18 : Cond.instanceMethod yX6_ask ∈ wsL_law := ch_49 _ (List.mem_of_getElem? (i := 18) rfl)
theorem m_49_19 : Cond.selects RX6 yX6_ask yX6_ask ∈ wsL_law := ch_49 _ (List.mem_of_getElem? (i := 19) rfl)
theorem m_49_20 : Cond.code yX6_ask cX6_ask 4 none ∈ wsL_law := ch_49 _ (List.mem_of_getElem? (i := 20) rfl)
theorem m_50_1 : Cond.methodLink RX6 66 yX6_gained ∈ wsL_law := ch_50 _ (List.mem_of_getElem? (i := 1) rfl)
theorem m_50_2 : Cond.instanceMethod yX6_gained ∈ wsL_law := ch_50 _ (List.mem_of_getElem? (i := 2) rfl)
theorem m_50_3 : Cond.selects RX6 yX6_gained yX6_gained ∈ wsL_law := ch_50 _ (List.mem_of_getElem? (i := 3) rfl)
theorem m_50_4 : Cond.code yX6_gained cX6_gained 3 (some .int) ∈ wsL_law := ch_50 _ (List.mem_of_getElem? (i := 4) rfl)
theorem kd44_0 : (decode cX6_hasPeace 0 = .ok (.iconst 0, 1)) ∧ (decode cX6_hasPeace 1 = .ok (.istore_n 2, 1)) ∧ (decode cX6_hasPeace 2 = .ok (.iload_n 2, 1)) ∧ (decode cX6_hasPeace 3 = .ok (.aload_n 0, 1)) ∧ (decode cX6_hasPeace 4 = .ok (.getfield 9, 3)) ∧ (decode cX6_hasPeace 7 = .ok (.if_icmp .ge 49, 3)) ∧ (decode cX6_hasPeace 10 = .ok (.iconst 0, 1)) ∧ (decode cX6_hasPeace 11 = .ok (.istore_n 3, 1)) ∧ (decode cX6_hasPeace 12 = .ok (.iload_n 3, 1)) ∧ (decode cX6_hasPeace 13 = .ok (.aload_n 0, 1)) ∧ (decode cX6_hasPeace 14 = .ok (.getfield 9, 3)) ∧ (decode cX6_hasPeace 17 = .ok (.if_icmp .ge 33, 3)) := by decide +kernel
theorem kd44_1 : (decode cX6_hasPeace 20 = .ok (.aload_n 0, 1)) ∧ (decode cX6_hasPeace 21 = .ok (.iload_n 2, 1)) ∧ (decode cX6_hasPeace 22 = .ok (.aload_n 0, 1)) ∧ (decode cX6_hasPeace 23 = .ok (.getfield 22, 3)) ∧ (decode cX6_hasPeace 26 = .ok (.iload_n 2, 1)) ∧ (decode cX6_hasPeace 27 = .ok (.iaload, 1)) ∧ (decode cX6_hasPeace 28 = .ok (.iload_n 3, 1)) ∧ (decode cX6_hasPeace 29 = .ok (.aload_n 0, 1)) ∧ (decode cX6_hasPeace 30 = .ok (.getfield 22, 3)) ∧ (decode cX6_hasPeace 33 = .ok (.iload_n 3, 1)) ∧ (decode cX6_hasPeace 34 = .ok (.iaload, 1)) ∧ (decode cX6_hasPeace 35 = .ok (.iload_n 1, 1)) := by decide +kernel
theorem kd44_2 : (decode cX6_hasPeace 36 = .ok (.invokevirtual 50, 3)) ∧ (decode cX6_hasPeace 39 = .ok (.ifCond .eq 5, 3)) ∧ (decode cX6_hasPeace 42 = .ok (.iconst 0, 1)) ∧ (decode cX6_hasPeace 43 = .ok (.ireturn, 1)) ∧ (decode cX6_hasPeace 44 = .ok (.iinc 3 1, 3)) ∧ (decode cX6_hasPeace 47 = .ok (.goto (-35), 3)) ∧ (decode cX6_hasPeace 50 = .ok (.iinc 2 1, 3)) ∧ (decode cX6_hasPeace 53 = .ok (.goto (-51), 3)) ∧ (decode cX6_hasPeace 56 = .ok (.iconst 1, 1)) ∧ (decode cX6_hasPeace 57 = .ok (.ireturn, 1)) ∧ (decode cX6_partByOffers 0 = .ok (.iconst 0, 1)) ∧ (decode cX6_partByOffers 1 = .ok (.istore_n 1, 1)) := by decide +kernel
theorem kd44_3 : (decode cX6_partByOffers 2 = .ok (.iload_n 1, 1)) ∧ (decode cX6_partByOffers 3 = .ok (.bipush 8, 2)) ∧ (decode cX6_partByOffers 5 = .ok (.if_icmp .ge 23, 3)) ∧ (decode cX6_partByOffers 8 = .ok (.aload_n 0, 1)) ∧ (decode cX6_partByOffers 9 = .ok (.getfield 22, 3)) ∧ (decode cX6_partByOffers 12 = .ok (.iload_n 1, 1)) ∧ (decode cX6_partByOffers 13 = .ok (.iconst (-1), 1)) ∧ (decode cX6_partByOffers 14 = .ok (.iastore, 1)) ∧ (decode cX6_partByOffers 15 = .ok (.aload_n 0, 1)) ∧ (decode cX6_partByOffers 16 = .ok (.getfield 25, 3)) ∧ (decode cX6_partByOffers 19 = .ok (.iload_n 1, 1)) ∧ (decode cX6_partByOffers 20 = .ok (.iconst (-1), 1)) := by decide +kernel
theorem kd44_4 : (decode cX6_partByOffers 21 = .ok (.iastore, 1)) ∧ (decode cX6_partByOffers 22 = .ok (.iinc 1 1, 3)) ∧ (decode cX6_partByOffers 25 = .ok (.goto (-23), 3)) ∧ (decode cX6_partByOffers 28 = .ok (.iconst 0, 1)) ∧ (decode cX6_partByOffers 29 = .ok (.istore_n 1, 1)) ∧ (decode cX6_partByOffers 30 = .ok (.iload_n 1, 1)) ∧ (decode cX6_partByOffers 31 = .ok (.aload_n 0, 1)) ∧ (decode cX6_partByOffers 32 = .ok (.getfield 34, 3)) ∧ (decode cX6_partByOffers 35 = .ok (.arraylength, 1)) ∧ (decode cX6_partByOffers 36 = .ok (.if_icmp .ge 16, 3)) ∧ (decode cX6_partByOffers 39 = .ok (.aload_n 0, 1)) ∧ (decode cX6_partByOffers 40 = .ok (.getfield 34, 3)) := by decide +kernel
theorem kd44_5 : (decode cX6_partByOffers 43 = .ok (.iload_n 1, 1)) ∧ (decode cX6_partByOffers 44 = .ok (.iconst 0, 1)) ∧ (decode cX6_partByOffers 45 = .ok (.bastore, 1)) ∧ (decode cX6_partByOffers 46 = .ok (.iinc 1 1, 3)) ∧ (decode cX6_partByOffers 49 = .ok (.goto (-19), 3)) ∧ (decode cX6_partByOffers 52 = .ok (.iconst 0, 1)) ∧ (decode cX6_partByOffers 53 = .ok (.istore_n 1, 1)) ∧ (decode cX6_partByOffers 54 = .ok (.iload_n 1, 1)) ∧ (decode cX6_partByOffers 55 = .ok (.aload_n 0, 1)) ∧ (decode cX6_partByOffers 56 = .ok (.getfield 9, 3)) ∧ (decode cX6_partByOffers 59 = .ok (.aload_n 0, 1)) ∧ (decode cX6_partByOffers 60 = .ok (.getfield 9, 3)) := by decide +kernel
theorem kd44_6 : (decode cX6_partByOffers 63 = .ok (.imul, 1)) ∧ (decode cX6_partByOffers 64 = .ok (.aload_n 0, 1)) ∧ (decode cX6_partByOffers 65 = .ok (.getfield 9, 3)) ∧ (decode cX6_partByOffers 68 = .ok (.iadd, 1)) ∧ (decode cX6_partByOffers 69 = .ok (.if_icmp .gt 43, 3)) ∧ (decode cX6_partByOffers 72 = .ok (.aload_n 0, 1)) ∧ (decode cX6_partByOffers 73 = .ok (.invokevirtual 54, 3)) ∧ (decode cX6_partByOffers 76 = .ok (.istore_n 2, 1)) ∧ (decode cX6_partByOffers 77 = .ok (.iload_n 2, 1)) ∧ (decode cX6_partByOffers 78 = .ok (.iconst (-1), 1)) ∧ (decode cX6_partByOffers 79 = .ok (.if_icmp .ne 7, 3)) ∧ (decode cX6_partByOffers 82 = .ok (.iconst (-1), 1)) := by decide +kernel
theorem kd44_7 : (decode cX6_partByOffers 83 = .ok (.goto 8, 3)) ∧ (decode cX6_partByOffers 86 = .ok (.aload_n 0, 1)) ∧ (decode cX6_partByOffers 87 = .ok (.iload_n 2, 1)) ∧ (decode cX6_partByOffers 88 = .ok (.invokevirtual 58, 3)) ∧ (decode cX6_partByOffers 91 = .ok (.istore_n 3, 1)) ∧ (decode cX6_partByOffers 92 = .ok (.iload_n 3, 1)) ∧ (decode cX6_partByOffers 93 = .ok (.iconst (-1), 1)) ∧ (decode cX6_partByOffers 94 = .ok (.if_icmp .ne 6, 3)) ∧ (decode cX6_partByOffers 97 = .ok (.goto 15, 3)) ∧ (decode cX6_partByOffers 100 = .ok (.aload_n 0, 1)) ∧ (decode cX6_partByOffers 101 = .ok (.iload_n 2, 1)) ∧ (decode cX6_partByOffers 102 = .ok (.iload_n 3, 1)) := by decide +kernel
theorem kd44_8 : (decode cX6_partByOffers 103 = .ok (.invokevirtual 62, 3)) ∧ (decode cX6_partByOffers 106 = .ok (.iinc 1 1, 3)) ∧ (decode cX6_partByOffers 109 = .ok (.goto (-55), 3)) ∧ (decode cX6_partByOffers 112 = .ok (.aload_n 0, 1)) ∧ (decode cX6_partByOffers 113 = .ok (.invokevirtual 66, 3)) ∧ (decode cX6_partByOffers 116 = .ok (.ireturn, 1)) := by decide +kernel
theorem lk_X6_54 : xLV RX6 54 yX6_boyWithout cX6_boyWithout 2 (some .int) 0 := ⟨m_49_9, m_49_10, m_49_11, m_3_2, m_49_12, by decide +kernel⟩
theorem lk_X6_58 : xLV RX6 58 yX6_dearestOf cX6_dearestOf 5 (some .int) 1 := ⟨m_49_13, m_49_14, m_49_15, m_3_2, m_49_16, by decide +kernel⟩
theorem lk_X6_62 : xLV RX6 62 yX6_ask cX6_ask 4 none 2 := ⟨m_49_17, m_49_18, m_49_19, m_3_2, m_49_20, by decide +kernel⟩
theorem lk_X6_66 : xLV RX6 66 yX6_gained cX6_gained 3 (some .int) 0 := ⟨m_50_1, m_50_2, m_50_3, m_3_2, m_50_4, by decide +kernel⟩
def xct (p : Int → Bool) : Nat → Nat
  | 0 => 0
  | m + 1 => xct p m + (if p m then 1 else 0)
theorem xct_le (p : Int → Bool) (m : Nat) : xct p m ≤ m := by
  induction m with
  | zero => exact Nat.le_refl _
  | succ m ih => unfold xct; split <;> omega
theorem xct_eq {p q : Int → Bool} {m : Nat} (h : ∀ k : Nat, k < m → p k = q k) : xct p m = xct q m := by
  induction m with
  | zero => rfl
  | succ m ih =>
    have := ih (fun k hk => h k (by omega))
    unfold xct
    rw [this, h m (by omega)]
theorem xct_up {p q : Int → Bool} {m j : Nat} (hj : j < m) (h0 : p j = false) (h1 : q j = true) (h : ∀ k : Nat, k < m → k ≠ j → q k = p k) : xct q m = xct p m + 1 := by
  induction m with
  | zero => omega
  | succ m ih =>
    unfold xct
    by_cases e : j = m
    · subst e
      rw [h0, h1, xct_eq (p := q) (q := p) (fun k hk => h k (by omega) (by omega))]
      simp
    · rw [ih (by omega) (fun k hk hn => h k (by omega) hn), h m (by omega) (fun q => e q.symm)]
      omega
def xsm (f : Nat → Nat) : Nat → Nat
  | 0 => 0
  | m + 1 => xsm f m + f m
theorem xsm_le {f : Nat → Nat} {B : Nat} (h : ∀ k, f k ≤ B) (m : Nat) : xsm f m ≤ m * B := by
  induction m with
  | zero => simp [xsm]
  | succ m ih => unfold xsm; have := h m; rw [Nat.succ_mul]; omega
theorem xsm_eq {f f' : Nat → Nat} {m : Nat} (h : ∀ k, k < m → f' k = f k) : xsm f' m = xsm f m := by
  induction m with
  | zero => rfl
  | succ m ih => unfold xsm; rw [ih (fun k hk => h k (by omega)), h m (by omega)]
theorem xsm_up {f f' : Nat → Nat} {m j : Nat} (hj : j < m) (h1 : f' j = f j + 1) (h : ∀ k, k < m → k ≠ j → f' k = f k) : xsm f' m = xsm f m + 1 := by
  induction m with
  | zero => omega
  | succ m ih =>
    unfold xsm
    by_cases e : j = m
    · subst e
      rw [h1, xsm_eq (fun k hk => h k (by omega) (by omega))]
      omega
    · rw [ih (by omega) (fun k hk hn => h k (by omega) hn), h m (by omega) (fun q => e q.symm)]
      omega
def xPh (n : Int) (bo sa : Int → Int) : Int := ((xct (fun k => decide (bo k ≠ -1)) n.toNat + xsm (fun x => xct (fun c => decide (sa (8 * (x : Int) + c) ≠ 0)) n.toNat) n.toNat : Nat) : Int)
theorem xPh_le {n : Int} (bo sa : Int → Int) (hn : 0 ≤ n) : 0 ≤ xPh n bo sa ∧ xPh n bo sa ≤ n * n + n := by
  unfold xPh
  have h1 := xct_le (fun k => decide (bo k ≠ -1)) n.toNat
  have h2 := xsm_le (f := fun x => xct (fun c => decide (sa (8 * (x : Int) + c) ≠ 0)) n.toNat) (B := n.toNat) (fun k => xct_le _ _) n.toNat
  have h3 : ((n.toNat * n.toNat : Nat) : Int) = n * n := by
    rw [Int.natCast_mul, Int.toNat_of_nonneg hn]
  omega
def xOf (n : Int) (co bo sa : Int → Int) : Prop :=
  (∀ k, 0 ≤ k → k < n → co k = -1 ∨ (0 ≤ co k ∧ co k < n ∧ bo (co k) = k)) ∧
  (∀ k, 0 ≤ k → k < n → bo k = -1 ∨ (0 ≤ bo k ∧ bo k < n ∧ co (bo k) = k)) ∧
  (∀ x k, 0 ≤ x → x < n → 0 ≤ k → k < n → sa (8 * x + k) ≠ 0 → bo k ≠ -1 ∧ bo k ≠ x)
def xCo (n : Int) (co : Int → Int) : Prop := ∀ k, 0 ≤ k → k < n → 0 ≤ co k
theorem xOf.co {n : Int} {co bo sa : Int → Int} (h : xOf n co bo sa) (hn : ∀ k, 0 ≤ k → k < n → co k ≠ -1) : xCo n co := fun k h1 h2 => by
  have := h.1 k h1 h2
  have := hn k h1 h2
  omega
theorem xOf.ini {n : Int} {co bo sa : Int → Int} (h1 : ∀ k, 0 ≤ k → k < n → co k = -1) (h2 : ∀ k, 0 ≤ k → k < n → bo k = -1) (h3 : ∀ k, 0 ≤ k → k < 64 → sa k = 0) (hn : n ≤ 8) : xOf n co bo sa :=
  ⟨fun k q1 q2 => Or.inl (h1 k q1 q2), fun k q1 q2 => Or.inl (h2 k q1 q2), fun x k q1 q2 q3 q4 q5 => absurd (h3 _ (by omega) (by omega)) q5⟩
theorem xPh_1 {n : Int} {bo bo' sa sa' : Int → Int} {c : Int} (hc : 0 ≤ c ∧ c < n) (h0 : bo c = -1) (h1 : bo' c ≠ -1) (hb : ∀ i, 0 ≤ i → i ≠ c → bo' i = bo i) (hs : ∀ i, 0 ≤ i → sa' i = sa i) : xPh n bo' sa' = xPh n bo sa + 1 := by
  unfold xPh
  have e1 := xct_up (p := fun k => decide (bo k ≠ -1)) (q := fun k => decide (bo' k ≠ -1)) (m := n.toNat) (j := c.toNat) (by omega) (by simp [Int.toNat_of_nonneg hc.1, h0]) (by simp [Int.toNat_of_nonneg hc.1, h1]) (fun k hk hn => by simp only [hb k (by omega) (by omega)])
  have e2 : xsm (fun x => xct (fun c => decide (sa' (8 * (x : Int) + c) ≠ 0)) n.toNat) n.toNat = xsm (fun x => xct (fun c => decide (sa (8 * (x : Int) + c) ≠ 0)) n.toNat) n.toNat :=
    xsm_eq (fun x hx => xct_eq (fun k hk => by simp only [hs (8 * (x : Int) + k) (by omega)]))
  omega
theorem xPh_2 {n : Int} {bo bo' sa sa' : Int → Int} {x c j : Int} (hn : n ≤ 8) (hx : 0 ≤ x ∧ x < n) (hc : 0 ≤ c ∧ c < n) (hj : j = 8 * x + c) (h0 : sa j = 0) (h1 : sa' j ≠ 0) (hs : ∀ i, 0 ≤ i → i ≠ j → sa' i = sa i) (hb : ∀ k, 0 ≤ k → k < n → (bo' k = -1 ↔ bo k = -1)) : xPh n bo' sa' = xPh n bo sa + 1 := by
  subst hj
  unfold xPh
  have e1 : xct (fun k => decide (bo' k ≠ -1)) n.toNat = xct (fun k => decide (bo k ≠ -1)) n.toNat := xct_eq (fun k hk => by
    have := hb k (by omega) (by omega)
    simp only [ne_eq, this])
  have e2 := xsm_up (f := fun x => xct (fun c => decide (sa (8 * (x : Int) + c) ≠ 0)) n.toNat) (f' := fun x => xct (fun c => decide (sa' (8 * (x : Int) + c) ≠ 0)) n.toNat) (m := n.toNat) (j := x.toNat) (by omega)
    (xct_up (j := c.toNat) (by omega) (by simp [Int.toNat_of_nonneg hc.1, Int.toNat_of_nonneg hx.1, h0]) (by simp [Int.toNat_of_nonneg hc.1, Int.toNat_of_nonneg hx.1, h1]) (fun k hk hn => by simp only [Int.toNat_of_nonneg hx.1]; rw [hs (8 * x + k) (by omega) (by omega)]))
    (fun k hk hn => xct_eq (fun i hi => by simp only [hs (8 * (k : Int) + i) (by omega) (by omega)]))
  omega
theorem xOf_1 {n : Int} {co bo sa co' bo' sa' : Int → Int} {b c : Int} (h : xOf n co bo sa) (hb : 0 ≤ b ∧ b < n) (hc : 0 ≤ c ∧ c < n) (e1 : co b = -1) (e2 : bo c = -1) (c1 : co' b = c) (c2 : ∀ i, 0 ≤ i → i ≠ b → co' i = co i) (b1 : bo' c = b) (b2 : ∀ i, 0 ≤ i → i ≠ c → bo' i = bo i) (s1 : ∀ i, 0 ≤ i → sa' i = sa i) : xOf n co' bo' sa' ∧ xPh n bo' sa' = xPh n bo sa + 1 := by
  refine ⟨⟨fun k h1 h2 => ?_, fun k h1 h2 => ?_, fun x k h1 h2 h3 h4 h5 => ?_⟩, xPh_1 hc e2 (by omega) b2 s1⟩
  · by_cases e : k = b
    · subst e; rw [c1]; exact Or.inr ⟨hc.1, hc.2, b1⟩
    · rw [c2 k h1 e]
      rcases h.1 k h1 h2 with q | ⟨q1, q2, q3⟩
      · exact Or.inl q
      · have : co k ≠ c := fun w => by rw [w, e2] at q3; omega
        exact Or.inr ⟨q1, q2, (b2 _ q1 this).trans q3⟩
  · by_cases e : k = c
    · subst e; rw [b1]; exact Or.inr ⟨hb.1, hb.2, c1⟩
    · rw [b2 k h1 e]
      rcases h.2.1 k h1 h2 with q | ⟨q1, q2, q3⟩
      · exact Or.inl q
      · have : bo k ≠ b := fun w => by rw [w, e1] at q3; omega
        exact Or.inr ⟨q1, q2, (c2 _ q1 this).trans q3⟩
  · rw [s1 _ (by omega)] at h5
    have q := h.2.2 x k h1 h2 h3 h4 h5
    have : k ≠ c := fun w => by rw [w, e2] at q; omega
    rw [b2 k h3 this]
    exact q
theorem xOf_2 {n : Int} {co bo sa co' bo' sa' : Int → Int} {b c j : Int} (h : xOf n co bo sa) (hn : n ≤ 8) (hb : 0 ≤ b ∧ b < n) (hc : 0 ≤ c ∧ c < n) (hj : j = 8 * b + c) (e1 : co b = -1) (e2 : bo c ≠ -1) (e3 : sa j = 0) (s1 : sa' j = 1) (s2 : ∀ i, 0 ≤ i → i ≠ j → sa' i = sa i) (hc' : ∀ i, 0 ≤ i → co' i = co i) (hb' : ∀ i, 0 ≤ i → bo' i = bo i) : xOf n co' bo' sa' ∧ xPh n bo' sa' = xPh n bo sa + 1 := by
  refine ⟨⟨fun k h1 h2 => ?_, fun k h1 h2 => ?_, fun x k h1 h2 h3 h4 h5 => ?_⟩, xPh_2 hn hb hc hj e3 (by omega) s2 (fun k h1 h2 => by rw [hb' k h1])⟩
  · rw [hc' k h1]
    rcases h.1 k h1 h2 with q | ⟨q1, q2, q3⟩
    · exact Or.inl q
    · exact Or.inr ⟨q1, q2, (hb' _ q1).trans q3⟩
  · rw [hb' k h1]
    rcases h.2.1 k h1 h2 with q | ⟨q1, q2, q3⟩
    · exact Or.inl q
    · exact Or.inr ⟨q1, q2, (hc' _ q1).trans q3⟩
  · rw [hb' k h3]
    by_cases e : 8 * x + k = j
    · have ex : x = b := by omega
      have ek : k = c := by omega
      subst ek
      subst ex
      refine ⟨e2, fun w => ?_⟩
      rcases h.2.1 k h3 h4 with q | ⟨q1, q2, q3⟩
      · exact e2 q
      · rw [w, e1] at q3; omega
    · rw [s2 _ (by omega) e] at h5
      exact h.2.2 x k h1 h2 h3 h4 h5
theorem xOf_3 {n : Int} {co bo sa co' bo' sa' : Int → Int} {b c d j : Int} (h : xOf n co bo sa) (hn : n ≤ 8) (hb : 0 ≤ b ∧ b < n) (hc : 0 ≤ c ∧ c < n) (hj : j = 8 * d + c) (e1 : co b = -1) (e2 : bo c = d) (e4 : d ≠ -1) (e3 : sa (8 * b + c) = 0) (c1 : co' b = c) (c3 : co' d = -1) (c2 : ∀ i, 0 ≤ i → i ≠ b → i ≠ d → co' i = co i) (b1 : bo' c = b) (b2 : ∀ i, 0 ≤ i → i ≠ c → bo' i = bo i) (s1 : sa' j = 1) (s2 : ∀ i, 0 ≤ i → i ≠ j → sa' i = sa i) : xOf n co' bo' sa' ∧ xPh n bo' sa' = xPh n bo sa + 1 := by
  obtain ⟨d1, d2, d3⟩ : 0 ≤ d ∧ d < n ∧ co d = c := by
    rcases h.2.1 c hc.1 hc.2 with q | ⟨q1, q2, q3⟩
    · omega
    · rw [e2] at q1 q2 q3; exact ⟨q1, q2, q3⟩
  have hdb : d ≠ b := fun w => by rw [w, e1] at d3; omega
  have e5 : sa j = 0 := by
    by_cases w : sa j = 0
    · exact w
    · have := h.2.2 d c d1 d2 hc.1 hc.2 (by rw [← hj]; exact w)
      omega
  refine ⟨⟨fun k h1 h2 => ?_, fun k h1 h2 => ?_, fun x k h1 h2 h3 h4 h5 => ?_⟩, xPh_2 hn ⟨d1, d2⟩ hc hj e5 (by omega) s2 (fun k h1 h2 => ?_)⟩
  · by_cases e : k = b
    · subst e; rw [c1]; exact Or.inr ⟨hc.1, hc.2, b1⟩
    · by_cases e' : k = d
      · subst e'; exact Or.inl c3
      · rw [c2 k h1 e e']
        rcases h.1 k h1 h2 with q | ⟨q1, q2, q3⟩
        · exact Or.inl q
        · have : co k ≠ c := fun w => by rw [w, e2] at q3; omega
          exact Or.inr ⟨q1, q2, (b2 _ q1 this).trans q3⟩
  · by_cases e : k = c
    · subst e; rw [b1]; exact Or.inr ⟨hb.1, hb.2, c1⟩
    · rw [b2 k h1 e]
      rcases h.2.1 k h1 h2 with q | ⟨q1, q2, q3⟩
      · exact Or.inl q
      · have w1 : bo k ≠ b := fun w => by rw [w, e1] at q3; omega
        have w2 : bo k ≠ d := fun w => by rw [w, d3] at q3; omega
        exact Or.inr ⟨q1, q2, (c2 _ q1 w1 w2).trans q3⟩
  · by_cases e : 8 * x + k = j
    · have ex : x = d := by omega
      have ek : k = c := by omega
      rw [ek, b1]
      omega
    · rw [s2 _ (by omega) e] at h5
      have q := h.2.2 x k h1 h2 h3 h4 h5
      by_cases ek : k = c
      · rw [ek, b1]
        refine ⟨by omega, fun w => h5 ?_⟩
        rw [ek, ← w]; exact e3
      · rw [b2 k h3 ek]; exact q
  · by_cases ek : k = c
    · rw [ek, b1, e2]; omega
    · rw [b2 k h1 ek]
theorem xpig : ∀ (n : Nat) (f : Nat → Nat), (∀ k, k < n + 1 → f k < n) → ∃ i j, i < j ∧ j < n + 1 ∧ f i = f j := by
  intro n
  induction n with
  | zero => intro f h; exact absurd (h 0 (by omega)) (by omega)
  | succ n ih =>
    intro f h
    by_cases hv : ∃ i, i < n + 1 ∧ f i = f (n + 1)
    · obtain ⟨i, h1, h2⟩ := hv
      exact ⟨i, n + 1, h1, by omega, h2⟩
    · have hv' : ∀ i, i < n + 1 → f i ≠ f (n + 1) := fun i hi e => hv ⟨i, hi, e⟩
      obtain ⟨i, j, h1, h2, h3⟩ := ih (fun k => if f k = n then f (n + 1) else f k) (fun k hk => by
        have a1 := h k (by omega)
        have a2 := h (n + 1) (by omega)
        have a3 := hv' k hk
        show (if f k = n then f (n + 1) else f k) < n
        split <;> omega)
      refine ⟨i, j, h1, by omega, ?_⟩
      have a1 := hv' i (by omega)
      have a2 := hv' j h2
      try dsimp only at h3
      split at h3 <;> split at h3 <;> omega
theorem xOf_free {n : Int} {co bo sa : Int → Int} {b : Int} (h : xOf n co bo sa) (hb : 0 ≤ b ∧ b < n) (e1 : co b = -1) (hs : ∀ c, 0 ≤ c → c < n → sa (8 * b + c) ≠ 0) : False := by
  have key : ∀ k : Nat, (k : Int) < n → 0 ≤ bo k ∧ bo k < n ∧ bo k ≠ b ∧ co (bo k) = k := fun k hk => by
    have q := h.2.2 b k hb.1 hb.2 (by omega) hk (hs k (by omega) hk)
    rcases h.2.1 k (by omega) hk with w | ⟨w1, w2, w3⟩
    · exact absurd w q.1
    · exact ⟨w1, w2, q.2, w3⟩
  obtain ⟨i, j, h1, h2, h3⟩ := xpig (n.toNat - 1) (fun k => if (bo k) > b then (bo k).toNat - 1 else (bo k).toNat) (fun k hk => by
    have := key k (by omega)
    show (if (bo k) > b then (bo k).toNat - 1 else (bo k).toNat) < n.toNat - 1
    split <;> omega)
  have k1 := key i (by omega)
  have k2 := key j (by omega)
  have : bo i = bo j := by
    try dsimp only at h3
    split at h3 <;> split at h3 <;> omega
  have e := k1.2.2.2
  rw [this, k2.2.2.2] at e
  omega
theorem xpre {P : Int → Prop} {f f' : Int → Int} {m : Int} (h : ∀ k, 0 ≤ k → k < m → P (f k)) (ho : ∀ i, 0 ≤ i → i ≠ m → f' i = f i) (ha : P (f' m)) : ∀ k, 0 ≤ k → k < m + 1 → P (f' k) := fun k q1 q2 => by
  by_cases e : k = m
  · subst e; exact ha
  · rw [ho k q1 e]; exact h k q1 (by omega)
def xbp (G : Int → Int) (b c d : Int) : Prop := G (8 * b + d) < G (8 * b + c) ∨ (G (8 * b + c) = G (8 * b + d) ∧ c < d)
def xcp (M : Int → Int) (c b d : Int) : Prop := M (8 * d + c) < M (8 * b + c) ∨ (M (8 * b + c) = M (8 * d + c) ∧ b < d)
theorem xbp.tot {G : Int → Int} {b c d : Int} (h : c ≠ d) (h1 : ¬ xbp G b d c) : xbp G b c d := by
  unfold xbp at h1 ⊢
  omega
theorem xcp.as {M : Int → Int} {c b d : Int} (h : xcp M c b d) : ¬ xcp M c d b := by
  unfold xcp at h ⊢
  omega
theorem xcp.tr {M : Int → Int} {c b d e : Int} (h : xcp M c b d) (h2 : xcp M c d e) : xcp M c b e := by
  unfold xcp at h h2 ⊢
  omega
def xStd (n : Int) (G M v : Int → Int) : Prop := (∀ b, 0 ≤ b → b < n → 0 ≤ v b ∧ v b < n) ∧ (∀ b d, 0 ≤ b → b < n → 0 ≤ d → d < n → v b = v d → b = d) ∧ ∀ b d, 0 ≤ b → b < n → 0 ≤ d → d < n → ¬ (xbp G b (v d) (v b) ∧ xcp M (v d) b d)
def xDa (n : Int) (G M co bo sa : Int → Int) : Prop :=
  (∀ x k, 0 ≤ x → x < n → 0 ≤ k → k < n → sa (8 * x + k) ≠ 0 → ∀ v, xStd n G M v → v x ≠ k) ∧
  (∀ x d, 0 ≤ x → x < n → 0 ≤ d → d < n → co x ≠ -1 → xbp G x d (co x) → sa (8 * x + d) ≠ 0) ∧
  (∀ x k, 0 ≤ x → x < n → 0 ≤ k → k < n → sa (8 * x + k) ≠ 0 → bo k ≠ -1 ∧ bo k ≠ x ∧ xcp M k (bo k) x)
def xDe (n : Int) (G sa : Int → Int) (b c : Int) : Prop := ∀ d, 0 ≤ d → d < n → xbp G b d c → sa (8 * b + d) ≠ 0
theorem xDa.ini {n : Int} {G M co bo sa : Int → Int} (h1 : ∀ k, 0 ≤ k → k < n → co k = -1) (h3 : ∀ k, 0 ≤ k → k < 64 → sa k = 0) (hn : n ≤ 8) : xDa n G M co bo sa :=
  ⟨fun x k q1 q2 q3 q4 q5 => absurd (h3 _ (by omega) (by omega)) q5, fun x d q1 q2 q3 q4 q5 => absurd (h1 x q1 q2) q5, fun x k q1 q2 q3 q4 q5 => absurd (h3 _ (by omega) (by omega)) q5⟩
theorem xDa.blk {n : Int} {G M sa v : Int → Int} {b c d : Int} (hv : xStd n G M v) (hb : 0 ≤ b ∧ b < n) (hd : 0 ≤ d ∧ d < n) (hbd : b ≠ d) (hR : ∀ k, 0 ≤ k → k < n → sa (8 * b + k) ≠ 0 → v b ≠ k) (hD : xDe n G sa b c) (hc : xcp M c b d) (e : v d = c) : False := by
  obtain ⟨v1, v2, v3⟩ := hv
  have r := v1 b hb.1 hb.2
  have n1 : ¬ xbp G b (v b) c := fun q => hR (v b) r.1 r.2 (hD (v b) r.1 r.2 q) rfl
  have n2 : c ≠ v b := fun q => hbd (v2 b d hb.1 hb.2 hd.1 hd.2 (by rw [e, q]))
  exact v3 b d hb.1 hb.2 hd.1 hd.2 ⟨by rw [e]; exact xbp.tot n2 n1, by rw [e]; exact hc⟩
theorem xDa.s1 {n : Int} {G M co bo sa co' bo' sa' : Int → Int} {b c : Int} (h : xDa n G M co bo sa) (hb : 0 ≤ b ∧ b < n) (hc : 0 ≤ c ∧ c < n) (e2 : bo c = -1) (hD : xDe n G sa b c) (c1 : co' b = c) (c2 : ∀ i, 0 ≤ i → i ≠ b → co' i = co i) (b2 : ∀ i, 0 ≤ i → i ≠ c → bo' i = bo i) (s1 : ∀ i, 0 ≤ i → sa' i = sa i) : xDa n G M co' bo' sa' := by
  refine ⟨fun x k q1 q2 q3 q4 q5 => ?_, fun x d q1 q2 q3 q4 q5 q6 => ?_, fun x k q1 q2 q3 q4 q5 => ?_⟩
  · rw [s1 _ (by omega)] at q5; exact h.1 x k q1 q2 q3 q4 q5
  · rw [s1 _ (by omega)]
    by_cases e : x = b
    · subst e; rw [c1] at q6; exact hD d q3 q4 q6
    · rw [c2 x q1 e] at q5 q6; exact h.2.1 x d q1 q2 q3 q4 q5 q6
  · rw [s1 _ (by omega)] at q5
    have w := h.2.2 x k q1 q2 q3 q4 q5
    have : k ≠ c := fun e => w.1 (by rw [e]; exact e2)
    rw [b2 k q3 this]; exact w
theorem xDa.s2 {n : Int} {G M co bo sa co' bo' sa' : Int → Int} {b c d j : Int} (h : xDa n G M co bo sa) (hn : n ≤ 8) (hb : 0 ≤ b ∧ b < n) (hc : 0 ≤ c ∧ c < n) (hd : 0 ≤ d ∧ d < n) (hdb : d ≠ b) (hj : j = 8 * b + c) (e2 : bo c = d) (ed : co d = c) (hcp : xcp M c d b) (s1 : sa' j ≠ 0) (s2 : ∀ i, 0 ≤ i → i ≠ j → sa' i = sa i) (hc' : ∀ i, 0 ≤ i → co' i = co i) (hb' : ∀ i, 0 ≤ i → bo' i = bo i) : xDa n G M co' bo' sa' := by
  have gr : ∀ i, 0 ≤ i → sa i ≠ 0 → sa' i ≠ 0 := fun i q1 q2 => by
    by_cases e : i = j
    · rw [e]; exact s1
    · rw [s2 i q1 e]; exact q2
  refine ⟨fun x k q1 q2 q3 q4 q5 v hv => ?_, fun x k q1 q2 q3 q4 q5 q6 => ?_, fun x k q1 q2 q3 q4 q5 => ?_⟩
  · by_cases e : 8 * x + k = j
    · have ex : x = b := by omega
      have ek : k = c := by omega
      subst ex
      subst ek
      intro w
      exact xDa.blk (b := d) (d := x) (c := k) hv hd hb hdb (fun i w1 w2 w3 => h.1 d i hd.1 hd.2 w1 w2 w3 v hv) (fun i w1 w2 w3 => h.2.1 d i hd.1 hd.2 w1 w2 (by omega) (by rw [ed]; exact w3)) hcp w
    · rw [s2 _ (by omega) e] at q5; exact h.1 x k q1 q2 q3 q4 q5 v hv
  · rw [hc' x q1] at q5 q6
    exact gr _ (by omega) (h.2.1 x k q1 q2 q3 q4 q5 q6)
  · rw [hb' k q3]
    by_cases e : 8 * x + k = j
    · have ex : x = b := by omega
      have ek : k = c := by omega
      subst ex
      subst ek
      rw [e2]
      exact ⟨by omega, hdb, hcp⟩
    · rw [s2 _ (by omega) e] at q5; exact h.2.2 x k q1 q2 q3 q4 q5
theorem xDa.s3 {n : Int} {G M co bo sa co' bo' sa' : Int → Int} {b c d j : Int} (h : xDa n G M co bo sa) (hn : n ≤ 8) (hb : 0 ≤ b ∧ b < n) (hc : 0 ≤ c ∧ c < n) (hd : 0 ≤ d ∧ d < n) (hdb : d ≠ b) (hj : j = 8 * d + c) (e2 : bo c = d) (e3 : sa (8 * b + c) = 0) (hcp : xcp M c b d) (hD : xDe n G sa b c) (c1 : co' b = c) (c3 : co' d = -1) (c2 : ∀ i, 0 ≤ i → i ≠ b → i ≠ d → co' i = co i) (b1 : bo' c = b) (b2 : ∀ i, 0 ≤ i → i ≠ c → bo' i = bo i) (s1 : sa' j ≠ 0) (s2 : ∀ i, 0 ≤ i → i ≠ j → sa' i = sa i) : xDa n G M co' bo' sa' := by
  have gr : ∀ i, 0 ≤ i → sa i ≠ 0 → sa' i ≠ 0 := fun i q1 q2 => by
    by_cases e : i = j
    · rw [e]; exact s1
    · rw [s2 i q1 e]; exact q2
  refine ⟨fun x k q1 q2 q3 q4 q5 v hv => ?_, fun x k q1 q2 q3 q4 q5 q6 => ?_, fun x k q1 q2 q3 q4 q5 => ?_⟩
  · by_cases e : 8 * x + k = j
    · have ex : x = d := by omega
      have ek : k = c := by omega
      subst ex
      subst ek
      intro w
      exact xDa.blk (b := b) (d := x) (c := k) hv hb hd (fun e => hdb e.symm) (fun i w1 w2 w3 => h.1 b i hb.1 hb.2 w1 w2 w3 v hv) hD hcp w
    · rw [s2 _ (by omega) e] at q5; exact h.1 x k q1 q2 q3 q4 q5 v hv
  · by_cases e : x = b
    · subst e; rw [c1] at q6; exact gr _ (by omega) (hD k q3 q4 q6)
    · by_cases e' : x = d
      · subst e'; exact absurd c3 q5
      · rw [c2 x q1 e e'] at q5 q6; exact gr _ (by omega) (h.2.1 x k q1 q2 q3 q4 q5 q6)
  · by_cases e : 8 * x + k = j
    · have ex : x = d := by omega
      have ek : k = c := by omega
      subst ex
      subst ek
      rw [b1]
      exact ⟨by omega, fun w => hdb w.symm, hcp⟩
    · rw [s2 _ (by omega) e] at q5
      have w := h.2.2 x k q1 q2 q3 q4 q5
      by_cases ek : k = c
      · subst ek
        rw [b1]
        rw [e2] at w
        refine ⟨by omega, fun q => q5 ?_, hcp.tr w.2.2⟩
        rw [← q]; exact e3
      · rw [b2 k q3 ek]; exact w
def xOpt (n : Int) (G M co : Int → Int) : Prop := xStd n G M co ∧ ∀ v, xStd n G M v → ∀ b, 0 ≤ b → b < n → ¬ xbp G b (v b) (co b)
theorem xDa.fin {n : Int} {G M co bo sa : Int → Int} (h : xDa n G M co bo sa) (ho : xOf n co bo sa) (hn : ∀ k, 0 ≤ k → k < n → co k ≠ -1) : xOpt n G M co := by
  have hm : ∀ k, 0 ≤ k → k < n → 0 ≤ co k ∧ co k < n ∧ bo (co k) = k := fun k q1 q2 => (ho.1 k q1 q2).resolve_left (hn k q1 q2)
  refine ⟨⟨fun b q1 q2 => ⟨(hm b q1 q2).1, (hm b q1 q2).2.1⟩, fun b d q1 q2 q3 q4 e => ?_, fun b d q1 q2 q3 q4 w => ?_⟩, fun v hv b q1 q2 w => ?_⟩
  · rw [← (hm b q1 q2).2.2, e, (hm d q3 q4).2.2]
  · have s := h.2.1 b (co d) q1 q2 (hm d q3 q4).1 (hm d q3 q4).2.1 (hn b q1 q2) w.1
    have t := (h.2.2 b (co d) q1 q2 (hm d q3 q4).1 (hm d q3 q4).2.1 s).2.2
    rw [(hm d q3 q4).2.2] at t
    exact t.as w.2
  · have r := hv.1 b q1 q2
    exact h.1 b (v b) q1 q2 r.1 r.2 (h.2.1 b (v b) q1 q2 r.1 r.2 (hn b q1 q2) w) v hv rfl
theorem xOpt.eq {n : Int} {G M co co' : Int → Int} (h : xOpt n G M co) (h' : xOpt n G M co') : ∀ b, 0 ≤ b → b < n → co b = co' b := fun b q1 q2 => by
  by_cases e : co b = co' b
  · exact e
  · exact absurd (xbp.tot e (h.2 co' h'.1 b q1 q2)) (h'.2 co h.1 b q1 q2)
theorem xStd.cg {n : Int} {G M G' M' v : Int → Int} (hn : n ≤ 8) (hG : ∀ b c, 0 ≤ b → b < n → 0 ≤ c → c < n → G (8 * b + c) = G' (8 * b + c)) (hM : ∀ b c, 0 ≤ b → b < n → 0 ≤ c → c < n → M (8 * b + c) = M' (8 * b + c)) (h : xStd n G M v) : xStd n G' M' v := by
  refine ⟨h.1, h.2.1, fun b d q1 q2 q3 q4 w => h.2.2 b d q1 q2 q3 q4 ?_⟩
  have r := h.1 b q1 q2
  have t := h.1 d q3 q4
  unfold xbp xcp at w ⊢
  rw [hG b (v d) q1 q2 t.1 t.2, hG b (v b) q1 q2 r.1 r.2, hM b (v d) q1 q2 t.1 t.2, hM d (v d) q3 q4 t.1 t.2]
  exact w
theorem xOpt.cg {n : Int} {G M G' M' co : Int → Int} (hn : n ≤ 8) (hG : ∀ b c, 0 ≤ b → b < n → 0 ≤ c → c < n → G (8 * b + c) = G' (8 * b + c)) (hM : ∀ b c, 0 ≤ b → b < n → 0 ≤ c → c < n → M (8 * b + c) = M' (8 * b + c)) (h : xOpt n G M co) : xOpt n G' M' co := by
  refine ⟨h.1.cg hn hG hM, fun v hv b q1 q2 w => ?_⟩
  have hv' : xStd n G M v := hv.cg hn (fun b c a1 a2 a3 a4 => (hG b c a1 a2 a3 a4).symm) (fun b c a1 a2 a3 a4 => (hM b c a1 a2 a3 a4).symm)
  refine h.2 v hv' b q1 q2 ?_
  have r := hv.1 b q1 q2
  have t := h.1.1 b q1 q2
  unfold xbp at w ⊢
  rw [hG b (co b) q1 q2 t.1 t.2, hG b (v b) q1 q2 r.1 r.2]
  exact w
theorem xOf.hold {n : Int} {co bo sa : Int → Int} {c d : Int} (h : xOf n co bo sa) (hc : 0 ≤ c ∧ c < n) (e : bo c = d) (hd : d ≠ -1) : 0 ≤ d ∧ d < n ∧ co d = c := by
  rcases h.2.1 c hc.1 hc.2 with q | ⟨q1, q2, q3⟩
  · omega
  · rw [e] at q1 q2 q3; exact ⟨q1, q2, q3⟩
theorem xcp.tot {M : Int → Int} {c b d : Int} (h : b ≠ d) (h1 : ¬ xcp M c b d) : xcp M c d b := by
  unfold xcp at h1 ⊢
  omega
theorem xDa_2 {n : Int} {G M co bo sa co' bo' sa' : Int → Int} {b c d j : Int} (h : xDa n G M co bo sa) (ho : xOf n co bo sa) (hn : n ≤ 8) (hb : 0 ≤ b ∧ b < n) (hc : 0 ≤ c ∧ c < n) (hj : j = 8 * b + c) (e1 : co b = -1) (e2 : bo c = d) (e4 : d ≠ -1) (hcp : ¬ xcp M c b d) (s1 : sa' j = 1) (s2 : ∀ i, 0 ≤ i → i ≠ j → sa' i = sa i) (hc' : ∀ i, 0 ≤ i → co' i = co i) (hb' : ∀ i, 0 ≤ i → bo' i = bo i) : xDa n G M co' bo' sa' := by
  obtain ⟨d1, d2, d3⟩ := ho.hold hc e2 e4
  have hdb : d ≠ b := fun w => by rw [w, e1] at d3; omega
  exact xDa.s2 h hn hb hc ⟨d1, d2⟩ hdb hj e2 d3 (xcp.tot (fun w => hdb w.symm) hcp) (by omega) s2 hc' hb'
theorem xDa_3 {n : Int} {G M co bo sa co' bo' sa' : Int → Int} {b c d j : Int} (h : xDa n G M co bo sa) (ho : xOf n co bo sa) (hn : n ≤ 8) (hb : 0 ≤ b ∧ b < n) (hc : 0 ≤ c ∧ c < n) (hj : j = 8 * d + c) (e1 : co b = -1) (e2 : bo c = d) (e4 : d ≠ -1) (e3 : sa (8 * b + c) = 0) (hcp : xcp M c b d) (hD : xDe n G sa b c) (c1 : co' b = c) (c3 : co' d = -1) (c2 : ∀ i, 0 ≤ i → i ≠ b → i ≠ d → co' i = co i) (b1 : bo' c = b) (b2 : ∀ i, 0 ≤ i → i ≠ c → bo' i = bo i) (s1 : sa' j = 1) (s2 : ∀ i, 0 ≤ i → i ≠ j → sa' i = sa i) : xDa n G M co' bo' sa' := by
  obtain ⟨d1, d2, d3⟩ := ho.hold hc e2 e4
  have hdb : d ≠ b := fun w => by rw [w, e1] at d3; omega
  exact xDa.s3 h hn hb hc ⟨d1, d2⟩ hdb hj e2 e3 hcp hD c1 c3 c2 b1 b2 (by omega) s2
def xD3 (G sa : Int → Int) (b k e : Int) : Prop := ∀ d, 0 ≤ d → d < k → sa (8 * b + d) = 0 → e ≠ -1 ∧ ¬ xbp G b d e
theorem xD3.z {G sa : Int → Int} {b e : Int} : xD3 G sa b 0 e := fun d q1 q2 => by omega
theorem xD3.sent {G sa : Int → Int} {b k e : Int} (h : xD3 G sa b k e) (hs : sa (8 * b + k) ≠ 0) : xD3 G sa b (k + 1) e := fun d q1 q2 q3 => by
  by_cases q : d = k
  · rw [q] at q3; exact absurd q3 hs
  · exact h d q1 (by omega) q3
theorem xD3.first {G sa : Int → Int} {b k e : Int} (h : xD3 G sa b k e) (he : e = -1) (hk : 0 ≤ k) : xD3 G sa b (k + 1) k := fun d q1 q2 q3 => by
  by_cases q : d = k
  · refine ⟨by omega, ?_⟩
    unfold xbp
    rw [q]
    omega
  · exact absurd he (h d q1 (by omega) q3).1
theorem xD3.more {G sa : Int → Int} {b k e a z : Int} (h : xD3 G sa b k e) (hk : 0 ≤ k) (e1 : G (8 * b + k) = a) (e2 : G (8 * b + e) = z) (hg : z < a) : xD3 G sa b (k + 1) k := fun d q1 q2 q3 => by
  by_cases q : d = k
  · refine ⟨by omega, ?_⟩
    unfold xbp
    rw [q]
    omega
  · have w := h d q1 (by omega) q3
    refine ⟨by omega, ?_⟩
    have w2 := w.2
    unfold xbp at w2 ⊢
    omega
theorem xD3.keep {G sa : Int → Int} {b k e a z : Int} (h : xD3 G sa b k e) (he : e ≠ -1) (hk : e < k) (e1 : G (8 * b + k) = a) (e2 : G (8 * b + e) = z) (hg : a ≤ z) : xD3 G sa b (k + 1) e := fun d q1 q2 q3 => by
  by_cases q : d = k
  · refine ⟨he, ?_⟩
    unfold xbp
    rw [q]
    omega
  · exact h d q1 (by omega) q3
theorem xD3.de {n : Int} {G sa : Int → Int} {b k e : Int} (h : xD3 G sa b k e) (hk : n ≤ k) : xDe n G sa b e := fun d q1 q2 w q => (h d q1 (by omega) q).2 w
theorem xsum_add {t : Int → Int} {z k v : Int} (h : z = xsum t k.toNat) (hk : 0 ≤ k) (hv : t k = v) : z + v = xsum t (k + 1).toNat := by rw [xsum_s hk, h, hv]
def xPi (S : xT) (g : xG) (a : Nat) : Prop := ∃ (p q c d : Nat) (n : Int), S a = some (12, 0) ∧ g a 10 = .ref p ∧ g a 11 = .ref q ∧ p ≠ q ∧ S p = some (7, 0) ∧ S q = some (7, 0) ∧ g p 3 = .ref c ∧ g q 3 = .ref d ∧ c ≠ d ∧ S c = some (12300, 8) ∧ S d = some (12300, 8) ∧ g p 0 = .int (iI n) ∧ 0 ≤ n ∧ n ≤ 8 ∧ xCo n (xv g c)
def xpq : List (Nat × Nat) := [(12, 10), (12, 11), (7, 3), (7, 0), (12300, 0)]
theorem xPi_m {S S1 : xT} {g g1 : xG} {a : Nat} {L : List (Nat × Nat)} (h : xPi S g a) (hm : xM L S g g1) (hle : xLe S S1) (hd : ∀ x ∈ xpq, x ∉ L) : xPi S1 g1 a := by
  obtain ⟨p, q, c, d, n, h1, h2, h3, h4, h5, h6, h7, h8, h9, h10, h11, h12, h13, h14, h15⟩ := h
  refine ⟨p, q, c, d, n, hle _ _ h1, ?_, ?_, h4, hle _ _ h5, hle _ _ h6, ?_, ?_, h9, hle _ _ h10, hle _ _ h11, ?_, h13, h14, ?_⟩
  · rw [hm _ _ _ _ h1 (hd _ (by decide))]; exact h2
  · rw [hm _ _ _ _ h1 (hd _ (by decide))]; exact h3
  · rw [hm _ _ _ _ h5 (hd _ (by decide))]; exact h7
  · rw [hm _ _ _ _ h6 (hd _ (by decide))]; exact h8
  · rw [hm _ _ _ _ h5 (hd _ (by decide))]; exact h12
  · rw [xv_m hm h10 (by decide) (hd _ (by decide))]; exact h15
set_option maxHeartbeats 4000000 in
set_option maxRecDepth 100000 in
theorem c2_boyWithout (l : Launch) (D : va_G) (kA : Nat → ClassId) (b0 : Nat) (t0 : Nat → Nat) (S : xT) (g : xG) (a0 : Nat) (n0 : Int) (w3 : Nat) (hs_a0 : S a0 = some (7, 0)) (hn0 : 1 ≤ n0 ∧ n0 ≤ 8) (en0 : g a0 0 = .int (iI n0)) (ew3 : g a0 3 = .ref w3) (hs_w3 : S w3 = some (12300, 8)) : xMt l yX6_boyWithout cX6_boyWithout 2 (some .int) 0 0 0 0 D kA b0 t0 [] [.ref a0] S g (fun (r : Option Value) (S1 : xT) (g1 : xG) => S = S1 ∧ g = g1 ∧ ∃ z : Int, r = some (.int (iI z)) ∧ (-1) ≤ z ∧ z ≤ 7 ∧ (z = -1 → ∀ k, 0 ≤ k → k < n0 → xv g w3 k ≠ -1) ∧ (z ≠ -1 → z < n0 ∧ xv g w3 z = -1)) := by
  refine xEnterI (by decide) (by simp [lg_sl, Value.category]) [(0, .ref a0)] rfl ?_
  intro K E hK hret _ _ _
  refine X_iconst hK kd26_4.2.2.2.2.1 ?_
  refine X_istoren hK (i := 1) [(1, .int (iI 0)), (0, .ref a0)] kd26_4.2.2.2.2.2.1 rfl (by decide) rfl ?_
  have P25 : ∀ (nP25 : Nat) (z21 : Int) (_ : 0 ≤ z21) (_ : z21 ≤ 8) (_ : ∀ k, 0 ≤ k → k < z21 → xv g w3 k ≠ -1) (_ : 24 - z21 < (nP25 : Int)), X K E 2 [(1, .int (iI z21)), (0, .ref a0)] [] S g 0 0 := by
    intro nP25
    induction nP25 with
    | zero => intro z21 lz21 uz21 v26 mP25; exact False.elim (by omega)
    | succ nP25 ihP25 =>
      intro z21 lz21 uz21 v26 mP25
      refine X_iloadn hK (i := 1) 0 kd26_4.2.2.2.2.2.2.1 rfl rfl ?_
      refine X_aloadn hK (i := 0) 1 kd26_4.2.2.2.2.2.2.2.1 rfl rfl ?_
      refine X_getK hK fl_X6_9_7 hs_a0 en0 kd26_4.2.2.2.2.2.2.2.2.1 ?_
      refine X_icmp_ge hK 28 (by omega) (by omega) kd26_4.2.2.2.2.2.2.2.2.2.1 (by decide) (fun c27 => ?_) (fun c27 => ?_)
      · refine X_iconst hK kd26_5.2.2.2.2.2.2.2.2.1 ?_
        exact hret _ _ _ _ _ _ _ kd26_5.2.2.2.2.2.2.2.2.2.1 ⟨rfl, rfl, (-1), rfl, (by omega), (by omega), (fun _ => fun k q1 q2 => v26 k q1 (by omega)), (fun h => absurd rfl h)⟩ (Nat.le_refl _) (Nat.le_refl _)
      · refine X_aloadn hK (i := 0) 1 kd26_4.2.2.2.2.2.2.2.2.2.2.1 rfl rfl ?_
        refine X_getK hK fl_X6_22_7 hs_a0 ew3 kd26_4.2.2.2.2.2.2.2.2.2.2.2 ?_
        refine X_iloadn hK (i := 1) 0 kd26_5.1 rfl rfl ?_
        refine X_iald hK hs_w3 (by decide) sl_12300 (by omega) (by omega) kd26_5.2.1 (fun z28 ez28 lz28 uz28 => ?_)
        have hvz28 := xv_e (j := z21) ez28 (by omega)
        refine X_iconst hK kd26_5.2.2.1 ?_
        refine X_icmp_ne hK 22 (by omega) (by omega) kd26_5.2.2.2.1 (by decide) (fun c29 => ?_) (fun c29 => ?_)
        · refine X_iinc hK (i := 1) (z := z21) (n := 1) 0 [(1, .int (iI (z21 + 1))), (0, .ref a0)] kd26_5.2.2.2.2.2.2.1 rfl (by decide) rfl ?_
          refine X_goto hK 2 kd26_5.2.2.2.2.2.2.2.1 (by decide) ?_
          exact ihP25  (z21 + 1) (by omega) (by omega) (xpre (P := fun x => x ≠ -1) v26 (fun _ _ _ => rfl) (by omega)) (by omega)
        · refine X_iloadn hK (i := 1) 0 kd26_5.2.2.2.2.1 rfl rfl ?_
          exact hret _ _ _ _ _ _ _ kd26_5.2.2.2.2.2.1 ⟨rfl, rfl, z21, rfl, (by omega), (by omega), (fun h => by omega), (fun _ => ⟨by omega, by omega⟩)⟩ (Nat.le_refl _) (Nat.le_refl _)
  exact P25 ((24 - 0 : Int).toNat + 1) 0 (by omega) (by omega) (fun k q1 q2 => by omega) (by omega)

set_option maxHeartbeats 4000000 in
set_option maxRecDepth 100000 in
theorem c2_dearestOf (l : Launch) (D : va_G) (kA : Nat → ClassId) (b0 : Nat) (t0 : Nat → Nat) (S : xT) (g : xG) (a0 : Nat) (x1 : Int) (n0 : Int) (w3 : Nat) (w4 : Nat) (w7 : Nat) (w1 : Nat) (hs_a0 : S a0 = some (7, 0)) (hx1 : 0 ≤ x1 ∧ x1 ≤ 7) (hn0 : 1 ≤ n0 ∧ n0 ≤ 8) (en0 : g a0 0 = .int (iI n0)) (ew3 : g a0 3 = .ref w3) (hs_w3 : S w3 = some (12300, 8)) (ew4 : g a0 4 = .ref w4) (hs_w4 : S w4 = some (12400, 8)) (ew7 : g a0 7 = .ref w7) (hs_w7 : S w7 = some (12701, 64)) (ew1 : g a0 1 = .ref w1) (hs_w1 : S w1 = some (12100, 64)) (hp0 : xOf n0 (xv g w3) (xv g w4) (xv g w7)) (hp1 : x1 < n0) (hp2 : xv g w3 x1 = -1) : xMt l yX6_dearestOf cX6_dearestOf 5 (some .int) 0 0 0 0 D kA b0 t0 [] [.ref a0, .int (iI x1)] S g (fun (r : Option Value) (S1 : xT) (g1 : xG) => S = S1 ∧ g = g1 ∧ ∃ z : Int, r = some (.int (iI z)) ∧ 0 ≤ z ∧ z ≤ 7 ∧ (z < n0 ∧ xv g w7 (8 * x1 + z) = 0) ∧ (xDe n0 (xv g w1) (xv g w7) x1 z)) := by
  refine xEnterI (by decide) (by simp [lg_sl, Value.category]) [(0, .ref a0), (1, .int (iI x1))] rfl ?_
  intro K E hK hret _ _ _
  refine X_iconst hK kd26_9.2.2.2.2.2.2.1 ?_
  refine X_istoren hK (i := 2) [(2, .int (iI (-1))), (0, .ref a0), (1, .int (iI x1))] kd26_9.2.2.2.2.2.2.2.1 rfl (by decide) rfl ?_
  refine X_iconst hK kd26_9.2.2.2.2.2.2.2.2.1 ?_
  refine X_istoren hK (i := 3) [(3, .int (iI 0)), (2, .int (iI (-1))), (0, .ref a0), (1, .int (iI x1))] kd26_9.2.2.2.2.2.2.2.2.2.1 rfl (by decide) rfl ?_
  have P58 : ∀ (nP58 : Nat) (z49 : Int) (_ : 0 ≤ z49) (_ : z49 ≤ 8) (z50 : Int) (_ : (-1) ≤ z50) (_ : z50 ≤ 7) (_ : z50 = -1 → ∀ c, 0 ≤ c → c < z49 → xv g w7 (8 * x1 + c) ≠ 0) (_ : z50 ≠ -1 → z50 < z49 ∧ xv g w7 (8 * x1 + z50) = 0) (_ : z49 ≤ n0) (_ : xD3 (xv g w1) (xv g w7) x1 z49 z50) (_ : 24 - z49 < (nP58 : Int)), X K E 4 [(3, .int (iI z49)), (2, .int (iI z50)), (0, .ref a0), (1, .int (iI x1))] [] S g 0 0 := by
    intro nP58
    induction nP58 with
    | zero => intro z49 lz49 uz49 z50 lz50 uz50 v59 v60 v61 v62 mP58; exact False.elim (by omega)
    | succ nP58 ihP58 =>
      intro z49 lz49 uz49 z50 lz50 uz50 v59 v60 v61 v62 mP58
      refine X_iloadn hK (i := 3) 0 kd26_9.2.2.2.2.2.2.2.2.2.2.1 rfl rfl ?_
      refine X_aloadn hK (i := 0) 2 kd26_9.2.2.2.2.2.2.2.2.2.2.2 rfl rfl ?_
      refine X_getK hK fl_X6_9_7 hs_a0 en0 kd26_10.1 ?_
      refine X_icmp_ge hK 64 (by omega) (by omega) kd26_10.2.1 (by decide) (fun c63 => ?_) (fun c63 => ?_)
      · refine X_iloadn hK (i := 2) 1 kd26_12.2.2.2.2.2.2.2.2.2.1 rfl rfl ?_
        have hfz50 : z50 ≠ -1 := fun e9 => xOf_free hp0 (by omega) (by omega) (fun c q1 q2 => v59 e9 c q1 (by omega))
        exact hret _ _ _ _ _ _ _ kd26_12.2.2.2.2.2.2.2.2.2.2.1 ⟨rfl, rfl, z50, rfl, (by omega), (by omega), (v60 (by omega) |>.imp (fun h => by omega) id), (xD3.de v62 (by omega))⟩ (Nat.le_refl _) (Nat.le_refl _)
      · refine X_iloadn hK (i := 1) 3 kd26_10.2.2.1 rfl rfl ?_
        refine X_bipush hK kd26_10.2.2.2.1 (by decide) ?_
        refine X_imul hK kd26_10.2.2.2.2.1 ?_
        refine X_iloadn hK (i := 3) 0 kd26_10.2.2.2.2.2.1 rfl rfl ?_
        refine X_iadd hK kd26_10.2.2.2.2.2.2.1 ?_
        refine X_istore hK (i := 4) [(4, .int (iI ((x1 * 8) + z49))), (3, .int (iI z49)), (2, .int (iI z50)), (0, .ref a0), (1, .int (iI x1))] kd26_10.2.2.2.2.2.2.2.1 (by decide) rfl ?_
        refine X_aloadn hK (i := 0) 3 kd26_10.2.2.2.2.2.2.2.2.1 rfl rfl ?_
        refine X_getK hK fl_X6_34_7 hs_a0 ew7 kd26_10.2.2.2.2.2.2.2.2.2.1 ?_
        refine X_iload hK (i := 4) 0 kd26_10.2.2.2.2.2.2.2.2.2.2.1 rfl ?_
        refine X_zald hK hs_w7 (by decide) sl_12701 (by omega) (by omega) kd26_10.2.2.2.2.2.2.2.2.2.2.2 (fun z64 ez64 lz64 uz64 => ?_)
        have hvz64 := xv_e (j := ((x1 * 8) + z49)) ez64 (by omega)
        have hqz64 : xv g w7 (8 * x1 + z49) = z64 := (by rw [show 8 * x1 + z49 = (x1 * 8) + z49 by omega]; exact hvz64)
        refine X_if_ne hK 58 (by omega) kd26_11.1 (by decide) (fun c65 => ?_) (fun c65 => ?_)
        · refine X_iinc hK (i := 3) (z := z49) (n := 1) 1 [(3, .int (iI (z49 + 1))), (4, .int (iI ((x1 * 8) + z49))), (2, .int (iI z50)), (0, .ref a0), (1, .int (iI x1))] kd26_12.2.2.2.2.2.2.2.1 rfl (by decide) rfl ?_
          refine X_goto hK 4 kd26_12.2.2.2.2.2.2.2.2.1 (by decide) ?_
          refine X_lv [(3, .int (iI (z49 + 1))), (2, .int (iI z50)), (0, .ref a0), (1, .int (iI x1))] [0, 2, 3, 4] rfl ?_
          exact ihP58  (z49 + 1) (by omega) (by omega) z50 (by omega) (by omega) (fun hm c q1 q2 => by rcases (show c < z49 ∨ c = z49 by omega) with e9 | e9 <;> first | omega | exact v59 (by omega) c q1 e9 | (rw [e9]; omega)) (fun hm => by first | omega | exact ⟨by omega, by omega⟩ | (have h9 := v60 (by omega); exact ⟨by omega, h9.2⟩)) (by omega) (by first | exact xD3.sent v62 (by omega) | exact xD3.first v62 (by omega) (by omega)) (by omega)
        · refine X_iloadn hK (i := 2) 2 kd26_11.2.1 rfl rfl ?_
          refine X_iconst hK kd26_11.2.2.1 ?_
          refine X_icmp_eq hK 56 (by omega) (by omega) kd26_11.2.2.2.1 (by decide) (fun c66 => ?_) (fun c66 => ?_)
          · refine X_iloadn hK (i := 3) 1 kd26_12.2.2.2.2.2.1 rfl rfl ?_
            refine X_istoren hK (i := 2) [(2, .int (iI z49)), (4, .int (iI ((x1 * 8) + z49))), (3, .int (iI z49)), (0, .ref a0), (1, .int (iI x1))] kd26_12.2.2.2.2.2.2.1 rfl (by decide) rfl ?_
            refine X_iinc hK (i := 3) (z := z49) (n := 1) 2 [(3, .int (iI (z49 + 1))), (2, .int (iI z49)), (4, .int (iI ((x1 * 8) + z49))), (0, .ref a0), (1, .int (iI x1))] kd26_12.2.2.2.2.2.2.2.1 rfl (by decide) rfl ?_
            refine X_goto hK 4 kd26_12.2.2.2.2.2.2.2.2.1 (by decide) ?_
            refine X_lv [(3, .int (iI (z49 + 1))), (2, .int (iI z49)), (0, .ref a0), (1, .int (iI x1))] [0, 1, 3, 4] rfl ?_
            exact ihP58  (z49 + 1) (by omega) (by omega) z49 (by omega) (by omega) (fun hm c q1 q2 => by rcases (show c < z49 ∨ c = z49 by omega) with e9 | e9 <;> first | omega | exact v59 (by omega) c q1 e9 | (rw [e9]; omega)) (fun hm => by first | omega | exact ⟨by omega, by omega⟩ | (have h9 := v60 (by omega); exact ⟨by omega, h9.2⟩)) (by omega) (by first | exact xD3.sent v62 (by omega) | exact xD3.first v62 (by omega) (by omega)) (by omega)
          · refine X_aloadn hK (i := 0) 3 kd26_11.2.2.2.2.1 rfl rfl ?_
            refine X_getK hK fl_X6_15_7 hs_a0 ew1 kd26_11.2.2.2.2.2.1 ?_
            refine X_iload hK (i := 4) 0 kd26_11.2.2.2.2.2.2.1 rfl ?_
            refine X_iald hK hs_w1 (by decide) sl_12100 (by omega) (by omega) kd26_11.2.2.2.2.2.2.2.1 (fun z67 ez67 lz67 uz67 => ?_)
            have hq68 : xv g w1 (8 * x1 + z49) = z67 := (by rw [show 8 * x1 + z49 = ((x1 * 8) + z49) by omega]; exact xv_e (j := ((x1 * 8) + z49)) ez67 (by omega))
            refine X_aloadn hK (i := 0) 3 kd26_11.2.2.2.2.2.2.2.2.1 rfl rfl ?_
            refine X_getK hK fl_X6_15_7 hs_a0 ew1 kd26_11.2.2.2.2.2.2.2.2.2.1 ?_
            refine X_iloadn hK (i := 1) 4 kd26_11.2.2.2.2.2.2.2.2.2.2.1 rfl rfl ?_
            refine X_bipush hK kd26_11.2.2.2.2.2.2.2.2.2.2.2 (by decide) ?_
            refine X_imul hK kd26_12.1 ?_
            refine X_iloadn hK (i := 2) 2 kd26_12.2.1 rfl rfl ?_
            refine X_iadd hK kd26_12.2.2.1 ?_
            refine X_iald hK hs_w1 (by decide) sl_12100 (by omega) (by omega) kd26_12.2.2.2.1 (fun z69 ez69 lz69 uz69 => ?_)
            have hq70 : xv g w1 (8 * x1 + z50) = z69 := (by rw [show 8 * x1 + z50 = ((x1 * 8) + z50) by omega]; exact xv_e (j := ((x1 * 8) + z50)) ez69 (by omega))
            refine X_icmp_le hK 58 (by omega) (by omega) kd26_12.2.2.2.2.1 (by decide) (fun c71 => ?_) (fun c71 => ?_)
            · refine X_iinc hK (i := 3) (z := z49) (n := 1) 1 [(3, .int (iI (z49 + 1))), (4, .int (iI ((x1 * 8) + z49))), (2, .int (iI z50)), (0, .ref a0), (1, .int (iI x1))] kd26_12.2.2.2.2.2.2.2.1 rfl (by decide) rfl ?_
              refine X_goto hK 4 kd26_12.2.2.2.2.2.2.2.2.1 (by decide) ?_
              refine X_lv [(3, .int (iI (z49 + 1))), (2, .int (iI z50)), (0, .ref a0), (1, .int (iI x1))] [0, 2, 3, 4] rfl ?_
              exact ihP58  (z49 + 1) (by omega) (by omega) z50 (by omega) (by omega) (fun hm c q1 q2 => by rcases (show c < z49 ∨ c = z49 by omega) with e9 | e9 <;> first | omega | exact v59 (by omega) c q1 e9 | (rw [e9]; omega)) (fun hm => by first | omega | exact ⟨by omega, by omega⟩ | (have h9 := v60 (by omega); exact ⟨by omega, h9.2⟩)) (by omega) (by first | exact xD3.sent v62 (by omega) | exact xD3.first v62 (by omega) (by omega) | exact xD3.more v62 (by omega) hq68 hq70 (by omega) | exact xD3.keep v62 (by omega) (by omega) hq68 hq70 (by omega)) (by omega)
            · refine X_iloadn hK (i := 3) 1 kd26_12.2.2.2.2.2.1 rfl rfl ?_
              refine X_istoren hK (i := 2) [(2, .int (iI z49)), (4, .int (iI ((x1 * 8) + z49))), (3, .int (iI z49)), (0, .ref a0), (1, .int (iI x1))] kd26_12.2.2.2.2.2.2.1 rfl (by decide) rfl ?_
              refine X_iinc hK (i := 3) (z := z49) (n := 1) 2 [(3, .int (iI (z49 + 1))), (2, .int (iI z49)), (4, .int (iI ((x1 * 8) + z49))), (0, .ref a0), (1, .int (iI x1))] kd26_12.2.2.2.2.2.2.2.1 rfl (by decide) rfl ?_
              refine X_goto hK 4 kd26_12.2.2.2.2.2.2.2.2.1 (by decide) ?_
              refine X_lv [(3, .int (iI (z49 + 1))), (2, .int (iI z49)), (0, .ref a0), (1, .int (iI x1))] [0, 1, 3, 4] rfl ?_
              exact ihP58  (z49 + 1) (by omega) (by omega) z49 (by omega) (by omega) (fun hm c q1 q2 => by rcases (show c < z49 ∨ c = z49 by omega) with e9 | e9 <;> first | omega | exact v59 (by omega) c q1 e9 | (rw [e9]; omega)) (fun hm => by first | omega | exact ⟨by omega, by omega⟩ | (have h9 := v60 (by omega); exact ⟨by omega, h9.2⟩)) (by omega) (by first | exact xD3.sent v62 (by omega) | exact xD3.first v62 (by omega) (by omega) | exact xD3.more v62 (by omega) hq68 hq70 (by omega) | exact xD3.keep v62 (by omega) (by omega) hq68 hq70 (by omega)) (by omega)
  exact P58 ((24 - 0 : Int).toNat + 1) 0 (by omega) (by omega) (-1) (by omega) (by omega) (fun _ c q1 q2 => by omega) (fun h => by omega) (by omega) xD3.z (by omega)

set_option maxHeartbeats 4000000 in
set_option maxRecDepth 100000 in
theorem c2_isMightier (l : Launch) (D : va_G) (kA : Nat → ClassId) (b0 : Nat) (t0 : Nat → Nat) (S : xT) (g : xG) (a0 : Nat) (x1 : Int) (x2 : Int) (x3 : Int) (w2 : Nat) (hs_a0 : S a0 = some (7, 0)) (hx1 : 0 ≤ x1 ∧ x1 ≤ 7) (hx2 : 0 ≤ x2 ∧ x2 ≤ 7) (hx3 : 0 ≤ x3 ∧ x3 ≤ 7) (ew2 : g a0 2 = .ref w2) (hs_w2 : S w2 = some (12200, 64)) : xMt l yX6_isMightier cX6_isMightier 6 (some .boolean) 0 0 0 0 D kA b0 t0 [] [.ref a0, .int (iI x1), .int (iI x2), .int (iI x3)] S g (fun (r : Option Value) (S1 : xT) (g1 : xG) => S = S1 ∧ g = g1 ∧ ∃ z : Int, r = some (.int (iI z)) ∧ 0 ≤ z ∧ z ≤ 1 ∧ ((z = 1 ↔ xcp (xv g w2) x3 x1 x2))) := by
  refine xEnterZ (by decide) (by simp [lg_sl, Value.category]) [(0, .ref a0), (1, .int (iI x1)), (2, .int (iI x2)), (3, .int (iI x3))] rfl ?_
  intro K E hK hret _ _ _
  refine X_aloadn hK (i := 0) 0 kd26_19.2.2.2.2.1 rfl rfl ?_
  refine X_getK hK fl_X6_19_7 hs_a0 ew2 kd26_19.2.2.2.2.2.1 ?_
  refine X_iloadn hK (i := 1) 1 kd26_19.2.2.2.2.2.2.1 rfl rfl ?_
  refine X_bipush hK kd26_19.2.2.2.2.2.2.2.1 (by decide) ?_
  refine X_imul hK kd26_19.2.2.2.2.2.2.2.2.1 ?_
  refine X_iloadn hK (i := 3) 3 kd26_19.2.2.2.2.2.2.2.2.2.1 rfl rfl ?_
  refine X_iadd hK kd26_19.2.2.2.2.2.2.2.2.2.2.1 ?_
  refine X_iald hK hs_w2 (by decide) sl_12200 (by omega) (by omega) kd26_19.2.2.2.2.2.2.2.2.2.2.2 (fun z1 ez1 lz1 uz1 => ?_)
  have hq2 : xv g w2 (8 * x1 + x3) = z1 := (by rw [show 8 * x1 + x3 = ((x1 * 8) + x3) by omega]; exact xv_e (j := ((x1 * 8) + x3)) ez1 (by omega))
  refine X_istore hK (i := 4) [(4, .int (iI z1)), (0, .ref a0), (1, .int (iI x1)), (2, .int (iI x2)), (3, .int (iI x3))] kd26_20.1 (by decide) rfl ?_
  refine X_aloadn hK (i := 0) 1 kd26_20.2.1 rfl rfl ?_
  refine X_getK hK fl_X6_19_7 hs_a0 ew2 kd26_20.2.2.1 ?_
  refine X_iloadn hK (i := 2) 3 kd26_20.2.2.2.1 rfl rfl ?_
  refine X_bipush hK kd26_20.2.2.2.2.1 (by decide) ?_
  refine X_imul hK kd26_20.2.2.2.2.2.1 ?_
  refine X_iloadn hK (i := 3) 4 kd26_20.2.2.2.2.2.2.1 rfl rfl ?_
  refine X_iadd hK kd26_20.2.2.2.2.2.2.2.1 ?_
  refine X_iald hK hs_w2 (by decide) sl_12200 (by omega) (by omega) kd26_20.2.2.2.2.2.2.2.2.1 (fun z3 ez3 lz3 uz3 => ?_)
  have hq4 : xv g w2 (8 * x2 + x3) = z3 := (by rw [show 8 * x2 + x3 = ((x2 * 8) + x3) by omega]; exact xv_e (j := ((x2 * 8) + x3)) ez3 (by omega))
  refine X_istore hK (i := 5) [(5, .int (iI z3)), (4, .int (iI z1)), (0, .ref a0), (1, .int (iI x1)), (2, .int (iI x2)), (3, .int (iI x3))] kd26_20.2.2.2.2.2.2.2.2.2.1 (by decide) rfl ?_
  refine X_iload hK (i := 4) 1 kd26_20.2.2.2.2.2.2.2.2.2.2.1 rfl ?_
  refine X_iload hK (i := 5) 0 kd26_20.2.2.2.2.2.2.2.2.2.2.2 rfl ?_
  refine X_icmp_gt hK 45 (by omega) (by omega) kd26_21.1 (by decide) (fun c5 => ?_) (fun c5 => ?_)
  · refine X_iconst hK kd26_21.2.2.2.2.2.2.2.1 ?_
    refine X_goto hK 50 kd26_21.2.2.2.2.2.2.2.2.1 (by decide) ?_
    exact hret _ _ _ _ _ _ _ kd26_21.2.2.2.2.2.2.2.2.2.2.1 (by omega) (by omega) ⟨rfl, rfl, 1, rfl, (by omega), (by omega), ⟨fun h9 => by unfold xcp; omega, fun h9 => by unfold xcp at h9; omega⟩⟩ (Nat.le_refl _) (Nat.le_refl _)
  · refine X_iload hK (i := 4) 1 kd26_21.2.1 rfl ?_
    refine X_iload hK (i := 5) 0 kd26_21.2.2.1 rfl ?_
    refine X_icmp_ne hK 49 (by omega) (by omega) kd26_21.2.2.2.1 (by decide) (fun c6 => ?_) (fun c6 => ?_)
    · refine X_iconst hK kd26_21.2.2.2.2.2.2.2.2.2.1 ?_
      exact hret _ _ _ _ _ _ _ kd26_21.2.2.2.2.2.2.2.2.2.2.1 (by omega) (by omega) ⟨rfl, rfl, 0, rfl, (by omega), (by omega), ⟨fun h9 => by unfold xcp; omega, fun h9 => by unfold xcp at h9; omega⟩⟩ (Nat.le_refl _) (Nat.le_refl _)
    · refine X_iloadn hK (i := 1) 3 kd26_21.2.2.2.2.1 rfl rfl ?_
      refine X_iloadn hK (i := 2) 4 kd26_21.2.2.2.2.2.1 rfl rfl ?_
      refine X_icmp_ge hK 49 (by omega) (by omega) kd26_21.2.2.2.2.2.2.1 (by decide) (fun c7 => ?_) (fun c7 => ?_)
      · refine X_iconst hK kd26_21.2.2.2.2.2.2.2.2.2.1 ?_
        exact hret _ _ _ _ _ _ _ kd26_21.2.2.2.2.2.2.2.2.2.2.1 (by omega) (by omega) ⟨rfl, rfl, 0, rfl, (by omega), (by omega), ⟨fun h9 => by unfold xcp; omega, fun h9 => by unfold xcp at h9; omega⟩⟩ (Nat.le_refl _) (Nat.le_refl _)
      · refine X_iconst hK kd26_21.2.2.2.2.2.2.2.1 ?_
        refine X_goto hK 50 kd26_21.2.2.2.2.2.2.2.2.1 (by decide) ?_
        exact hret _ _ _ _ _ _ _ kd26_21.2.2.2.2.2.2.2.2.2.2.1 (by omega) (by omega) ⟨rfl, rfl, 1, rfl, (by omega), (by omega), ⟨fun h9 => by unfold xcp; omega, fun h9 => by unfold xcp at h9; omega⟩⟩ (Nat.le_refl _) (Nat.le_refl _)

set_option maxHeartbeats 4000000 in
set_option maxRecDepth 100000 in
theorem c2_ask (l : Launch) (D : va_G) (kA : Nat → ClassId) (b0 : Nat) (t0 : Nat → Nat) (S : xT) (g : xG) (a0 : Nat) (x1 : Int) (x2 : Int) (n0 : Int) (w3 : Nat) (w4 : Nat) (w7 : Nat) (w1 : Nat) (w2 : Nat) (hs_a0 : S a0 = some (7, 0)) (hx1 : 0 ≤ x1 ∧ x1 ≤ 7) (hx2 : 0 ≤ x2 ∧ x2 ≤ 7) (hn0 : 1 ≤ n0 ∧ n0 ≤ 8) (en0 : g a0 0 = .int (iI n0)) (ew3 : g a0 3 = .ref w3) (hs_w3 : S w3 = some (12300, 8)) (ew4 : g a0 4 = .ref w4) (hs_w4 : S w4 = some (12400, 8)) (ew7 : g a0 7 = .ref w7) (hs_w7 : S w7 = some (12701, 64)) (ew1 : g a0 1 = .ref w1) (hs_w1 : S w1 = some (12100, 64)) (ew2 : g a0 2 = .ref w2) (hs_w2 : S w2 = some (12200, 64)) (hp0 : xOf n0 (xv g w3) (xv g w4) (xv g w7)) (hp1 : x1 < n0 ∧ x2 < n0) (hp2 : xv g w3 x1 = -1) (hp3 : xv g w7 (8 * x1 + x2) = 0) (hp4 : xDa n0 (xv g w1) (xv g w2) (xv g w3) (xv g w4) (xv g w7)) (hp5 : xDe n0 (xv g w1) (xv g w7) x1 x2) : xMt l yX6_ask cX6_ask 4 none 1 0 0 25 D kA b0 t0 [(12400, 0), (12300, 0), (12701, 0)] [.ref a0, .int (iI x1), .int (iI x2)] S g (fun (r : Option Value) (S1 : xT) (g1 : xG) => S = S1 ∧ r = none ∧ (xOf n0 (xv g1 w3) (xv g1 w4) (xv g1 w7) ∧ xPh n0 (xv g1 w4) (xv g1 w7) = xPh n0 (xv g w4) (xv g w7) + 1) ∧ (xFr 12300 S g g1 w3) ∧ (xDa n0 (xv g1 w1) (xv g1 w2) (xv g1 w3) (xv g1 w4) (xv g1 w7))) := by
  refine xEnterV (by decide) (by simp [lg_sl, Value.category]) [(0, .ref a0), (1, .int (iI x1)), (2, .int (iI x2))] rfl ?_
  intro K E hK hret _ _ _
  refine X_aloadn hK (i := 0) 0 kd26_0.1 rfl rfl ?_
  refine X_getK hK fl_X6_25_7 hs_a0 ew4 kd26_0.2.1 ?_
  refine X_iloadn hK (i := 2) 2 kd26_0.2.2.1 rfl rfl ?_
  refine X_iald hK hs_w4 (by decide) sl_12400 (by omega) (by omega) kd26_0.2.2.2.1 (fun z1 ez1 lz1 uz1 => ?_)
  have hvz1 := xv_e (j := x2) ez1 (by omega)
  have hdz1 : z1 ≠ -1 → z1 ≠ x1 ∧ z1 < n0 := fun e9 => by have h9 := hp0.2.1 x2 (by omega) (by omega); rw [hvz1] at h9; refine ⟨fun e8 => ?_, by omega⟩; rcases h9 with h9 | ⟨_, _, h9⟩ <;> first | omega | (rw [e8] at h9; omega)
  refine X_istoren hK (i := 3) [(3, .int (iI z1)), (0, .ref a0), (1, .int (iI x1)), (2, .int (iI x2))] kd26_0.2.2.2.2.1 rfl (by decide) rfl ?_
  refine X_iloadn hK (i := 3) 0 kd26_0.2.2.2.2.2.1 rfl rfl ?_
  refine X_iconst hK kd26_0.2.2.2.2.2.2.1 ?_
  refine X_icmp_eq hK 22 (by omega) (by omega) kd26_0.2.2.2.2.2.2.2.1 (by decide) (fun c2 => ?_) (fun c2 => ?_)
  · refine X_aloadn hK (i := 0) 1 kd26_1.2.2.1 rfl rfl ?_
    refine X_getK hK fl_X6_25_7 hs_a0 ew4 kd26_1.2.2.2.1 ?_
    refine X_iloadn hK (i := 2) 3 kd26_1.2.2.2.2.1 rfl rfl ?_
    refine X_iloadn hK (i := 1) 2 kd26_1.2.2.2.2.2.1 rfl rfl ?_
    refine X_iast hK hs_w4 (by decide) (by decide) sl_12400 (by omega) (by omega) (by omega) (by omega) kd26_1.2.2.2.2.2.2.1 (fun g3 hg3 => ?_)
    refine X_aloadn hK (i := 0) 1 kd26_1.2.2.2.2.2.2.2.1 rfl rfl ?_
    refine X_getK hK fl_X6_22_7 hs_a0 ((xs_a hg3 (xne hs_a0 hs_w4 (by decide))).trans ew3) kd26_1.2.2.2.2.2.2.2.2.1 ?_
    refine X_iloadn hK (i := 1) 2 kd26_1.2.2.2.2.2.2.2.2.2.1 rfl rfl ?_
    refine X_iloadn hK (i := 2) 3 kd26_1.2.2.2.2.2.2.2.2.2.2.1 rfl rfl ?_
    refine X_iast hK hs_w3 (by decide) (by decide) sl_12300 (by omega) (by omega) (by omega) (by omega) kd26_1.2.2.2.2.2.2.2.2.2.2.2 (fun g4 hg4 => ?_)
    refine X_iloadn hK (i := 3) 0 kd26_2.1 rfl rfl ?_
    refine X_iconst hK kd26_2.2.1 ?_
    refine X_icmp_eq hK 75 (by omega) (by omega) kd26_2.2.2.1 (by decide) (fun c5 => ?_) (fun c5 => False.elim (by omega))
    exact hret _ _ _ _ _ _ kd26_4.2.2.2.1 ⟨rfl, rfl, (xOf_1 (b := x1) (c := x2) hp0 (by omega) (by omega) (by omega) (by omega) (show xv g4 w3 x1 = x2 from by rw [xv_s hg4 (by omega)]) (fun i9 hi9 h09 => (show xv g4 w3 i9 = xv g w3 i9 from by rw [(xv_k (i := i9) hg4 (by omega) (by omega) (by omega)), (xv_a hg3 (xne hs_w3 hs_w4 (by decide)))])) (show xv g4 w4 x2 = x1 from by rw [(xv_a hg4 (xne hs_w4 hs_w3 (by decide))), xv_s hg3 (by omega)]) (fun i9 hi9 h09 => (show xv g4 w4 i9 = xv g w4 i9 from by rw [(xv_a hg4 (xne hs_w4 hs_w3 (by decide))), (xv_k (i := i9) hg3 (by omega) (by omega) (by omega))])) (fun i9 hi9 => (show xv g4 w7 i9 = xv g w7 i9 from by rw [(xv_a hg4 (xne hs_w7 hs_w3 (by decide))), (xv_a hg3 (xne hs_w7 hs_w4 (by decide)))]))), (xFr.w (xFr.t xFr.rf hg3 hs_w4 (by decide)) hg4), (by rw [(Eq.trans (xv_a hg4 (xne hs_w1 hs_w3 (by decide))) (xv_a hg3 (xne hs_w1 hs_w4 (by decide)))), (Eq.trans (xv_a hg4 (xne hs_w2 hs_w3 (by decide))) (xv_a hg3 (xne hs_w2 hs_w4 (by decide))))]; exact xDa.s1 (b := x1) (c := x2) hp4 (by omega) (by omega) (by omega) hp5 (show xv g4 w3 x1 = x2 from by rw [xv_s hg4 (by omega)]) (fun i9 hi9 h09 => (show xv g4 w3 i9 = xv g w3 i9 from by rw [(xv_k (i := i9) hg4 (by omega) (by omega) (by omega)), (xv_a hg3 (xne hs_w3 hs_w4 (by decide)))])) (fun i9 hi9 h09 => (show xv g4 w4 i9 = xv g w4 i9 from by rw [(xv_a hg4 (xne hs_w4 hs_w3 (by decide))), (xv_k (i := i9) hg3 (by omega) (by omega) (by omega))])) (fun i9 hi9 => (show xv g4 w7 i9 = xv g w7 i9 from by rw [(xv_a hg4 (xne hs_w7 hs_w3 (by decide))), (xv_a hg3 (xne hs_w7 hs_w4 (by decide)))])))⟩ (Nat.le_refl _) (Nat.le_refl _)
  · refine X_aloadn hK (i := 0) 1 kd26_0.2.2.2.2.2.2.2.2.1 rfl rfl ?_
    refine X_iloadn hK (i := 1) 2 kd26_0.2.2.2.2.2.2.2.2.2.1 rfl rfl ?_
    refine X_iloadn hK (i := 3) 0 kd26_0.2.2.2.2.2.2.2.2.2.2.1 rfl rfl ?_
    refine X_iloadn hK (i := 2) 3 kd26_0.2.2.2.2.2.2.2.2.2.2.2 rfl rfl ?_
    refine X_callV hK [.int (iI x1), .int (iI z1), .int (iI x2)] [] lk_X6_69 (c2_isMightier _ _ _ _ _ S g a0 x1 z1 x2 w2 hs_a0 (by omega) (by omega) (by omega) ew2 hs_w2) hs_a0 ⟨by decide, rfl⟩ kd26_1.1 rfl rfl (by simp [Value.category]) (by decide) (by decide) (by decide) (by decide) (fun r6 S8 g7 pr6 qr6 hg7 => ?_)
    obtain ⟨rfl, rfl, z9, rfl, lz9, uz9, k10⟩ := pr6
    refine X_st [.int (iI z9)] rfl ?_
    refine X_if_eq hK 63 (by omega) kd26_1.2.1 (by decide) (fun c11 => ?_) (fun c11 => ?_)
    · refine X_aloadn hK (i := 0) 1 kd26_3.2.2.2.2.2.2.1 rfl rfl ?_
      refine X_getK hK fl_X6_34_7 hs_a0 ew7 kd26_3.2.2.2.2.2.2.2.1 ?_
      refine X_iloadn hK (i := 1) 2 kd26_3.2.2.2.2.2.2.2.2.1 rfl rfl ?_
      refine X_bipush hK kd26_3.2.2.2.2.2.2.2.2.2.1 (by decide) ?_
      refine X_imul hK kd26_3.2.2.2.2.2.2.2.2.2.2.1 ?_
      refine X_iloadn hK (i := 2) 3 kd26_3.2.2.2.2.2.2.2.2.2.2.2 rfl rfl ?_
      refine X_iadd hK kd26_4.1 ?_
      refine X_iconst hK kd26_4.2.1 ?_
      refine X_zast hK hs_w7 (by decide) (by decide) sl_12701 (by omega) (by omega) (by omega) (by omega) kd26_4.2.2.1 (fun g12 hg12 => ?_)
      exact hret _ _ _ _ _ _ kd26_4.2.2.2.1 ⟨rfl, rfl, (xOf_2 (b := x1) (c := x2) (j := ((x1 * 8) + x2)) hp0 (by omega) (by omega) (by omega) (by omega) (by omega) (by omega) (by rw [show ((x1 * 8) + x2) = 8 * x1 + x2 by omega]; exact hp3) (show xv g12 w7 ((x1 * 8) + x2) = 1 from by rw [xv_s hg12 (by omega)]) (fun i9 hi9 h09 => (show xv g12 w7 i9 = xv g w7 i9 from by rw [(xv_k (i := i9) hg12 (by omega) (by omega) (by omega))])) (fun i9 hi9 => (show xv g12 w3 i9 = xv g w3 i9 from by rw [(xv_a hg12 (xne hs_w3 hs_w7 (by decide)))])) (fun i9 hi9 => (show xv g12 w4 i9 = xv g w4 i9 from by rw [(xv_a hg12 (xne hs_w4 hs_w7 (by decide)))]))), (xFr.t xFr.rf hg12 hs_w7 (by decide)), (by rw [(xv_a hg12 (xne hs_w1 hs_w7 (by decide))), (xv_a hg12 (xne hs_w2 hs_w7 (by decide)))]; exact xDa_2 (b := x1) (c := x2) (d := z1) (j := ((x1 * 8) + x2)) hp4 hp0 (by omega) (by omega) (by omega) (by omega) (by omega) hvz1 (by omega) (fun q9 => by have h8 := k10.mpr q9; omega) (show xv g12 w7 ((x1 * 8) + x2) = 1 from by rw [xv_s hg12 (by omega)]) (fun i9 hi9 h09 => (show xv g12 w7 i9 = xv g w7 i9 from by rw [(xv_k (i := i9) hg12 (by omega) (by omega) (by omega))])) (fun i9 hi9 => (show xv g12 w3 i9 = xv g w3 i9 from by rw [(xv_a hg12 (xne hs_w3 hs_w7 (by decide)))])) (fun i9 hi9 => (show xv g12 w4 i9 = xv g w4 i9 from by rw [(xv_a hg12 (xne hs_w4 hs_w7 (by decide)))])))⟩ (Nat.le_refl _) (Nat.le_refl _)
    · refine X_aloadn hK (i := 0) 1 kd26_1.2.2.1 rfl rfl ?_
      refine X_getK hK fl_X6_25_7 hs_a0 ew4 kd26_1.2.2.2.1 ?_
      refine X_iloadn hK (i := 2) 3 kd26_1.2.2.2.2.1 rfl rfl ?_
      refine X_iloadn hK (i := 1) 2 kd26_1.2.2.2.2.2.1 rfl rfl ?_
      refine X_iast hK hs_w4 (by decide) (by decide) sl_12400 (by omega) (by omega) (by omega) (by omega) kd26_1.2.2.2.2.2.2.1 (fun g13 hg13 => ?_)
      refine X_aloadn hK (i := 0) 1 kd26_1.2.2.2.2.2.2.2.1 rfl rfl ?_
      refine X_getK hK fl_X6_22_7 hs_a0 ((xs_a hg13 (xne hs_a0 hs_w4 (by decide))).trans ew3) kd26_1.2.2.2.2.2.2.2.2.1 ?_
      refine X_iloadn hK (i := 1) 2 kd26_1.2.2.2.2.2.2.2.2.2.1 rfl rfl ?_
      refine X_iloadn hK (i := 2) 3 kd26_1.2.2.2.2.2.2.2.2.2.2.1 rfl rfl ?_
      refine X_iast hK hs_w3 (by decide) (by decide) sl_12300 (by omega) (by omega) (by omega) (by omega) kd26_1.2.2.2.2.2.2.2.2.2.2.2 (fun g14 hg14 => ?_)
      refine X_iloadn hK (i := 3) 0 kd26_2.1 rfl rfl ?_
      refine X_iconst hK kd26_2.2.1 ?_
      refine X_icmp_eq hK 75 (by omega) (by omega) kd26_2.2.2.1 (by decide) (fun c15 => False.elim (by omega)) (fun c15 => ?_)
      refine X_aloadn hK (i := 0) 1 kd26_2.2.2.2.1 rfl rfl ?_
      refine X_getK hK fl_X6_22_7 hs_a0 ((xs_a hg14 (xne hs_a0 hs_w3 (by decide))).trans ((xs_a hg13 (xne hs_a0 hs_w4 (by decide))).trans ew3)) kd26_2.2.2.2.2.1 ?_
      refine X_iloadn hK (i := 3) 0 kd26_2.2.2.2.2.2.1 rfl rfl ?_
      refine X_iconst hK kd26_2.2.2.2.2.2.2.1 ?_
      refine X_iast hK hs_w3 (by decide) (by decide) sl_12300 (by omega) (by omega) (by omega) (by omega) kd26_2.2.2.2.2.2.2.2.1 (fun g16 hg16 => ?_)
      refine X_aloadn hK (i := 0) 1 kd26_2.2.2.2.2.2.2.2.2.1 rfl rfl ?_
      refine X_getK hK fl_X6_34_7 hs_a0 ((xs_a hg16 (xne hs_a0 hs_w3 (by decide))).trans ((xs_a hg14 (xne hs_a0 hs_w3 (by decide))).trans ((xs_a hg13 (xne hs_a0 hs_w4 (by decide))).trans ew7))) kd26_2.2.2.2.2.2.2.2.2.2.1 ?_
      refine X_iloadn hK (i := 3) 0 kd26_2.2.2.2.2.2.2.2.2.2.2.1 rfl rfl ?_
      refine X_bipush hK kd26_2.2.2.2.2.2.2.2.2.2.2.2 (by decide) ?_
      refine X_imul hK kd26_3.1 ?_
      refine X_iloadn hK (i := 2) 3 kd26_3.2.1 rfl rfl ?_
      refine X_iadd hK kd26_3.2.2.1 ?_
      refine X_iconst hK kd26_3.2.2.2.1 ?_
      refine X_zast hK hs_w7 (by decide) (by decide) sl_12701 (by omega) (by omega) (by omega) (by omega) kd26_3.2.2.2.2.1 (fun g17 hg17 => ?_)
      refine X_goto hK 75 kd26_3.2.2.2.2.2.1 (by decide) ?_
      exact hret _ _ _ _ _ _ kd26_4.2.2.2.1 ⟨rfl, rfl, (xOf_3 (b := x1) (c := x2) (d := z1) (j := ((z1 * 8) + x2)) hp0 (by omega) (by omega) (by omega) (by omega) (by omega) (by omega) (by omega) hp3 (show xv g17 w3 x1 = x2 from by rw [(xv_a hg17 (xne hs_w3 hs_w7 (by decide))), (xv_k (i := x1) hg16 (by omega) (by omega) (by omega)), xv_s hg14 (by omega)]) (show xv g17 w3 z1 = (-1) from by rw [(xv_a hg17 (xne hs_w3 hs_w7 (by decide))), xv_s hg16 (by omega)]) (fun i9 hi9 h09 h19 => (show xv g17 w3 i9 = xv g w3 i9 from by rw [(xv_a hg17 (xne hs_w3 hs_w7 (by decide))), (xv_k (i := i9) hg16 (by omega) (by omega) (by omega)), (xv_k (i := i9) hg14 (by omega) (by omega) (by omega)), (xv_a hg13 (xne hs_w3 hs_w4 (by decide)))])) (show xv g17 w4 x2 = x1 from by rw [(xv_a hg17 (xne hs_w4 hs_w7 (by decide))), (xv_a hg16 (xne hs_w4 hs_w3 (by decide))), (xv_a hg14 (xne hs_w4 hs_w3 (by decide))), xv_s hg13 (by omega)]) (fun i9 hi9 h09 => (show xv g17 w4 i9 = xv g w4 i9 from by rw [(xv_a hg17 (xne hs_w4 hs_w7 (by decide))), (xv_a hg16 (xne hs_w4 hs_w3 (by decide))), (xv_a hg14 (xne hs_w4 hs_w3 (by decide))), (xv_k (i := i9) hg13 (by omega) (by omega) (by omega))])) (show xv g17 w7 ((z1 * 8) + x2) = 1 from by rw [xv_s hg17 (by omega)]) (fun i9 hi9 h09 => (show xv g17 w7 i9 = xv g w7 i9 from by rw [(xv_k (i := i9) hg17 (by omega) (by omega) (by omega)), (xv_a hg16 (xne hs_w7 hs_w3 (by decide))), (xv_a hg14 (xne hs_w7 hs_w3 (by decide))), (xv_a hg13 (xne hs_w7 hs_w4 (by decide)))]))), (xFr.t (xFr.w (xFr.w (xFr.t xFr.rf hg13 hs_w4 (by decide)) hg14) hg16) hg17 hs_w7 (by decide)), (by rw [(Eq.trans (Eq.trans (Eq.trans (xv_a hg17 (xne hs_w1 hs_w7 (by decide))) (xv_a hg16 (xne hs_w1 hs_w3 (by decide)))) (xv_a hg14 (xne hs_w1 hs_w3 (by decide)))) (xv_a hg13 (xne hs_w1 hs_w4 (by decide)))), (Eq.trans (Eq.trans (Eq.trans (xv_a hg17 (xne hs_w2 hs_w7 (by decide))) (xv_a hg16 (xne hs_w2 hs_w3 (by decide)))) (xv_a hg14 (xne hs_w2 hs_w3 (by decide)))) (xv_a hg13 (xne hs_w2 hs_w4 (by decide))))]; exact xDa_3 (b := x1) (c := x2) (d := z1) (j := ((z1 * 8) + x2)) hp4 hp0 (by omega) (by omega) (by omega) (by omega) (by omega) hvz1 (by omega) hp3 (k10.mp (by omega)) hp5 (show xv g17 w3 x1 = x2 from by rw [(xv_a hg17 (xne hs_w3 hs_w7 (by decide))), (xv_k (i := x1) hg16 (by omega) (by omega) (by omega)), xv_s hg14 (by omega)]) (show xv g17 w3 z1 = (-1) from by rw [(xv_a hg17 (xne hs_w3 hs_w7 (by decide))), xv_s hg16 (by omega)]) (fun i9 hi9 h09 h19 => (show xv g17 w3 i9 = xv g w3 i9 from by rw [(xv_a hg17 (xne hs_w3 hs_w7 (by decide))), (xv_k (i := i9) hg16 (by omega) (by omega) (by omega)), (xv_k (i := i9) hg14 (by omega) (by omega) (by omega)), (xv_a hg13 (xne hs_w3 hs_w4 (by decide)))])) (show xv g17 w4 x2 = x1 from by rw [(xv_a hg17 (xne hs_w4 hs_w7 (by decide))), (xv_a hg16 (xne hs_w4 hs_w3 (by decide))), (xv_a hg14 (xne hs_w4 hs_w3 (by decide))), xv_s hg13 (by omega)]) (fun i9 hi9 h09 => (show xv g17 w4 i9 = xv g w4 i9 from by rw [(xv_a hg17 (xne hs_w4 hs_w7 (by decide))), (xv_a hg16 (xne hs_w4 hs_w3 (by decide))), (xv_a hg14 (xne hs_w4 hs_w3 (by decide))), (xv_k (i := i9) hg13 (by omega) (by omega) (by omega))])) (show xv g17 w7 ((z1 * 8) + x2) = 1 from by rw [xv_s hg17 (by omega)]) (fun i9 hi9 h09 => (show xv g17 w7 i9 = xv g w7 i9 from by rw [(xv_k (i := i9) hg17 (by omega) (by omega) (by omega)), (xv_a hg16 (xne hs_w7 hs_w3 (by decide))), (xv_a hg14 (xne hs_w7 hs_w3 (by decide))), (xv_a hg13 (xne hs_w7 hs_w4 (by decide)))])))⟩ (Nat.le_refl _) (Nat.le_refl _)

set_option maxHeartbeats 4000000 in
set_option maxRecDepth 100000 in
theorem c3_gained (l : Launch) (D : va_G) (kA : Nat → ClassId) (b0 : Nat) (t0 : Nat → Nat) (S : xT) (g : xG) (a0 : Nat) (n0 : Int) (w3 : Nat) (w1 : Nat) (hs_a0 : S a0 = some (7, 0)) (hn0 : 1 ≤ n0 ∧ n0 ≤ 8) (en0 : g a0 0 = .int (iI n0)) (ew3 : g a0 3 = .ref w3) (hs_w3 : S w3 = some (12300, 8)) (ew1 : g a0 1 = .ref w1) (hs_w1 : S w1 = some (12100, 64)) (hp0 : xCo n0 (xv g w3)) : xMt l yX6_gained cX6_gained 3 (some .int) 0 0 0 0 D kA b0 t0 [] [.ref a0] S g (fun (r : Option Value) (S1 : xT) (g1 : xG) => S = S1 ∧ g = g1 ∧ ∃ z : Int, r = some (.int (iI z)) ∧ 0 ≤ z ∧ z ≤ 2040 ∧ (z = xsum (fun k => xv g w1 (8 * k + xv g w3 k)) n0.toNat)) := by
  refine xEnterI (by decide) (by simp [lg_sl, Value.category]) [(0, .ref a0)] rfl ?_
  intro K E hK hret _ _ _
  refine X_iconst hK kd26_16.2.2.2.2.2.2.2.2.1 ?_
  refine X_istoren hK (i := 1) [(1, .int (iI 0)), (0, .ref a0)] kd26_16.2.2.2.2.2.2.2.2.2.1 rfl (by decide) rfl ?_
  refine X_iconst hK kd26_16.2.2.2.2.2.2.2.2.2.2.1 ?_
  refine X_istoren hK (i := 2) [(2, .int (iI 0)), (1, .int (iI 0)), (0, .ref a0)] kd26_16.2.2.2.2.2.2.2.2.2.2.2 rfl (by decide) rfl ?_
  have P37 : ∀ (nP37 : Nat) (z31 : Int) (_ : 0 ≤ z31) (_ : z31 ≤ 8) (z32 : Int) (_ : 0 ≤ z32) (_ : z32 ≤ 2040) (_ : z32 = xsum (fun k => xv g w1 (8 * k + xv g w3 k)) z31.toNat) (_ : z31 ≤ n0) (_ : z32 ≤ 255 * z31) (_ : 24 - z31 < (nP37 : Int)), X K E 4 [(2, .int (iI z31)), (1, .int (iI z32)), (0, .ref a0)] [] S g 0 0 := by
    intro nP37
    induction nP37 with
    | zero => intro z31 lz31 uz31 z32 lz32 uz32 v38 v39 v40 mP37; exact False.elim (by omega)
    | succ nP37 ihP37 =>
      intro z31 lz31 uz31 z32 lz32 uz32 v38 v39 v40 mP37
      refine X_iloadn hK (i := 2) 0 kd26_17.1 rfl rfl ?_
      refine X_aloadn hK (i := 0) 2 kd26_17.2.1 rfl rfl ?_
      refine X_getK hK fl_X6_9_7 hs_a0 en0 kd26_17.2.2.1 ?_
      refine X_icmp_ge hK 47 (by omega) (by omega) kd26_17.2.2.2.1 (by decide) (fun c41 => ?_) (fun c41 => ?_)
      · refine X_iloadn hK (i := 1) 1 kd26_19.2.2.1 rfl rfl ?_
        exact hret _ _ _ _ _ _ _ kd26_19.2.2.2.1 ⟨rfl, rfl, z32, rfl, (by omega), (by omega), (by rw [show n0.toNat = z31.toNat by omega]; exact v38)⟩ (Nat.le_refl _) (Nat.le_refl _)
      · refine X_aloadn hK (i := 0) 2 kd26_17.2.2.2.2.1 rfl rfl ?_
        refine X_getK hK fl_X6_22_7 hs_a0 ew3 kd26_17.2.2.2.2.2.1 ?_
        refine X_iloadn hK (i := 2) 0 kd26_17.2.2.2.2.2.2.1 rfl rfl ?_
        refine X_iald hK hs_w3 (by decide) sl_12300 (by omega) (by omega) kd26_17.2.2.2.2.2.2.2.1 (fun z42 ez42 lz42 uz42 => ?_)
        have hr43 : xv g w3 z31 = z42 := xv_e (j := z31) ez42 (by omega)
        have hhr43 : 0 ≤ z42 := by have h9 := hp0 z31 (by omega) (by omega); rw [hr43] at h9; exact h9
        refine X_iconst hK kd26_17.2.2.2.2.2.2.2.2.1 ?_
        refine X_icmp_eq hK 41 (by omega) (by omega) kd26_17.2.2.2.2.2.2.2.2.2.1 (by decide) (fun c44 => False.elim (by omega)) (fun c44 => ?_)
        refine X_iloadn hK (i := 1) 1 kd26_17.2.2.2.2.2.2.2.2.2.2.1 rfl rfl ?_
        refine X_aloadn hK (i := 0) 2 kd26_17.2.2.2.2.2.2.2.2.2.2.2 rfl rfl ?_
        refine X_getK hK fl_X6_15_7 hs_a0 ew1 kd26_18.1 ?_
        refine X_iloadn hK (i := 2) 0 kd26_18.2.1 rfl rfl ?_
        refine X_bipush hK kd26_18.2.2.1 (by decide) ?_
        refine X_imul hK kd26_18.2.2.2.1 ?_
        refine X_aloadn hK (i := 0) 2 kd26_18.2.2.2.2.1 rfl rfl ?_
        refine X_getK hK fl_X6_22_7 hs_a0 ew3 kd26_18.2.2.2.2.2.1 ?_
        refine X_iloadn hK (i := 2) 0 kd26_18.2.2.2.2.2.2.1 rfl rfl ?_
        refine X_ialdK hK hs_w3 (by decide) (by omega) (by omega) ez42 kd26_18.2.2.2.2.2.2.2.1 ?_
        have hr45 : xv g w3 z31 = z42 := xv_e (j := z31) ez42 (by omega)
        have hhr45 : 0 ≤ z42 := by have h9 := hp0 z31 (by omega) (by omega); rw [hr45] at h9; exact h9
        refine X_iadd hK kd26_18.2.2.2.2.2.2.2.2.1 ?_
        refine X_iald hK hs_w1 (by decide) sl_12100 (by omega) (by omega) kd26_18.2.2.2.2.2.2.2.2.2.1 (fun z46 ez46 lz46 uz46 => ?_)
        have hq47 : xv g w1 (8 * z31 + z42) = z46 := (by rw [show 8 * z31 + z42 = ((z31 * 8) + z42) by omega]; exact xv_e (j := ((z31 * 8) + z42)) ez46 (by omega))
        refine X_iadd hK kd26_18.2.2.2.2.2.2.2.2.2.2.1 ?_
        refine X_istoren hK (i := 1) [(1, .int (iI (z32 + z46))), (2, .int (iI z31)), (0, .ref a0)] kd26_18.2.2.2.2.2.2.2.2.2.2.2 rfl (by decide) rfl ?_
        refine X_iinc hK (i := 2) (z := z31) (n := 1) 1 [(2, .int (iI (z31 + 1))), (1, .int (iI (z32 + z46))), (0, .ref a0)] kd26_19.1 rfl (by decide) rfl ?_
        refine X_goto hK 4 kd26_19.2.1 (by decide) ?_
        exact ihP37  (z31 + 1) (by omega) (by omega) (z32 + z46) (by omega) (by omega) (xsum_add (v := z46) v38 (by omega) (by show xv g w1 (8 * z31 + xv g w3 z31) = _; rw [hr45]; exact hq47)) (by omega) (by omega) (by omega)
  exact P37 ((24 - 0 : Int).toNat + 1) 0 (by omega) (by omega) 0 (by omega) (by omega) rfl (by omega) (by omega) (by omega)

set_option maxHeartbeats 4000000 in
set_option maxRecDepth 100000 in
theorem c_X6_partByOffers (l : Launch) (D : va_G) (kA : Nat → ClassId) (b0 : Nat) (t0 : Nat → Nat) (S : xT) (g : xG) (a0 : Nat) (n0 : Int) (w3 : Nat) (w4 : Nat) (w7 : Nat) (w1 : Nat) (w2 : Nat) (hs_a0 : S a0 = some (7, 0)) (hn0 : 1 ≤ n0 ∧ n0 ≤ 8) (en0 : g a0 0 = .int (iI n0)) (ew3 : g a0 3 = .ref w3) (hs_w3 : S w3 = some (12300, 8)) (ew4 : g a0 4 = .ref w4) (hs_w4 : S w4 = some (12400, 8)) (ew7 : g a0 7 = .ref w7) (hs_w7 : S w7 = some (12701, 64)) (ew1 : g a0 1 = .ref w1) (hs_w1 : S w1 = some (12100, 64)) (ew2 : g a0 2 = .ref w2) (hs_w2 : S w2 = some (12200, 64)) : xMt l yX6_partByOffers cX6_partByOffers 4 (some .int) 2 0 0 48 D kA b0 t0 [(12300, 0), (12400, 0), (12701, 0)] [.ref a0] S g (fun (r : Option Value) (S1 : xT) (g1 : xG) => S = S1 ∧ ∃ z : Int, r = some (.int (iI z)) ∧ 0 ≤ z ∧ z ≤ 2040 ∧ (xCo n0 (xv g1 w3)) ∧ (xFr 12300 S g g1 w3) ∧ (xOpt n0 (xv g w1) (xv g w2) (xv g1 w3)) ∧ (z = xsum (fun k => xv g1 w1 (8 * k + xv g1 w3 k)) n0.toNat)) := by
  refine xEnterI (by decide) (by simp [lg_sl, Value.category]) [(0, .ref a0)] rfl ?_
  intro K E hK hret _ _ _
  refine X_iconst hK kd44_2.2.2.2.2.2.2.2.2.2.2.1 ?_
  refine X_istoren hK (i := 1) [(1, .int (iI 0)), (0, .ref a0)] kd44_2.2.2.2.2.2.2.2.2.2.2.2 rfl (by decide) rfl ?_
  have P1125 : ∀ (nP1125 : Nat) (g986 : xG) (_ : xM [(12400, 0), (12300, 0)] S g g986) (z985 : Int) (_ : 0 ≤ z985) (_ : z985 ≤ 8) (_ : ∀ k, 0 ≤ k → k < z985 → xv g986 w3 k = -1) (_ : ∀ k, 0 ≤ k → k < z985 → xv g986 w4 k = -1) (_ : xFr 12300 S g g986 w3) (_ : 24 - z985 < (nP1125 : Int)), X K E 2 [(1, .int (iI z985)), (0, .ref a0)] [] S g986 0 0 := by
    intro nP1125
    induction nP1125 with
    | zero => intro g986 hg986 z985 lz985 uz985 v1126 v1127 v1128 mP1125; exact False.elim (by omega)
    | succ nP1125 ihP1125 =>
      intro g986 hg986 z985 lz985 uz985 v1126 v1127 v1128 mP1125
      refine X_iloadn hK (i := 1) 0 kd44_3.1 rfl rfl ?_
      refine X_bipush hK kd44_3.2.1 (by decide) ?_
      refine X_icmp_ge hK 28 (by omega) (by omega) kd44_3.2.2.1 (by decide) (fun c1129 => ?_) (fun c1129 => ?_)
      · refine X_iconst hK kd44_4.2.2.2.1 ?_
        refine X_istoren hK (i := 1) [(1, .int (iI 0)), (0, .ref a0)] kd44_4.2.2.2.2.1 rfl (by decide) rfl ?_
        have P1468 : ∀ (nP1468 : Nat) (g1402 : xG) (_ : xM [(12701, 0)] S g986 g1402) (z1401 : Int) (_ : 0 ≤ z1401) (_ : z1401 ≤ 64) (_ : ∀ k, 0 ≤ k → k < z1401 → xv g1402 w7 k = 0) (_ : xFr 12300 S g g1402 w3) (_ : 80 - z1401 < (nP1468 : Int)), X K E 30 [(1, .int (iI z1401)), (0, .ref a0)] [] S g1402 0 0 := by
          intro nP1468
          induction nP1468 with
          | zero => intro g1402 hg1402 z1401 lz1401 uz1401 v1469 v1470 mP1468; exact False.elim (by omega)
          | succ nP1468 ihP1468 =>
            intro g1402 hg1402 z1401 lz1401 uz1401 v1469 v1470 mP1468
            refine X_iloadn hK (i := 1) 0 kd44_4.2.2.2.2.2.1 rfl rfl ?_
            refine X_aloadn hK (i := 0) 1 kd44_4.2.2.2.2.2.2.1 rfl rfl ?_
            refine X_getK hK fl_X6_34_7 hs_a0 ((hg1402 a0 7 0 7 hs_a0 (by decide)).trans ((hg986 a0 7 0 7 hs_a0 (by decide)).trans ew7)) kd44_4.2.2.2.2.2.2.2.1 ?_
            refine X_alen hK (i := 1) (ty := .boolean) hs_w7 (by decide) (by decide) (fun _ => rfl) kd44_4.2.2.2.2.2.2.2.2.1 ?_
            refine X_icmp_ge hK 52 (by omega) (by omega) kd44_4.2.2.2.2.2.2.2.2.2.1 (by decide) (fun c1471 => ?_) (fun c1471 => ?_)
            · refine X_iconst hK kd44_5.2.2.2.2.2.1 ?_
              refine X_istoren hK (i := 1) [(1, .int (iI 0)), (0, .ref a0)] kd44_5.2.2.2.2.2.2.1 rfl (by decide) rfl ?_
              have P1651 : ∀ (nP1651 : Nat) (g1622 : xG) (_ : xM [(12400, 0), (12300, 0), (12701, 0)] S g1402 g1622) (z1621 : Int) (_ : 0 ≤ z1621) (_ : z1621 ≤ 73) (_ : xOf n0 (xv g1622 w3) (xv g1622 w4) (xv g1622 w7)) (_ : z1621 ≤ xPh n0 (xv g1622 w4) (xv g1622 w7)) (_ : xDa n0 (xv g1622 w1) (xv g1622 w2) (xv g1622 w3) (xv g1622 w4) (xv g1622 w7)) (_ : xFr 12300 S g g1622 w3) (_ : 89 - z1621 < (nP1651 : Int)), X K E 54 [(1, .int (iI z1621)), (0, .ref a0)] [] S g1622 0 0 := by
                intro nP1651
                induction nP1651 with
                | zero => intro g1622 hg1622 z1621 lz1621 uz1621 v1652 v1653 v1654 v1655 mP1651; exact False.elim (by omega)
                | succ nP1651 ihP1651 =>
                  intro g1622 hg1622 z1621 lz1621 uz1621 v1652 v1653 v1654 v1655 mP1651
                  refine X_iloadn hK (i := 1) 0 kd44_5.2.2.2.2.2.2.2.1 rfl rfl ?_
                  refine X_aloadn hK (i := 0) 1 kd44_5.2.2.2.2.2.2.2.2.1 rfl rfl ?_
                  refine X_getK hK fl_X6_9_7 hs_a0 ((hg1622 a0 7 0 0 hs_a0 (by decide)).trans ((hg1402 a0 7 0 0 hs_a0 (by decide)).trans ((hg986 a0 7 0 0 hs_a0 (by decide)).trans en0))) kd44_5.2.2.2.2.2.2.2.2.2.1 ?_
                  refine X_aloadn hK (i := 0) 1 kd44_5.2.2.2.2.2.2.2.2.2.2.1 rfl rfl ?_
                  refine X_getK hK fl_X6_9_7 hs_a0 ((hg1622 a0 7 0 0 hs_a0 (by decide)).trans ((hg1402 a0 7 0 0 hs_a0 (by decide)).trans ((hg986 a0 7 0 0 hs_a0 (by decide)).trans en0))) kd44_5.2.2.2.2.2.2.2.2.2.2.2 ?_
                  refine X_imul hK kd44_6.1 ?_
                  have hm1656 := xmulB (a := n0) (b := n0) (A := 8) (B := 8) (by omega) (by omega) (by omega) (by omega)
                  refine X_aloadn hK (i := 0) 1 kd44_6.2.1 rfl rfl ?_
                  refine X_getK hK fl_X6_9_7 hs_a0 ((hg1622 a0 7 0 0 hs_a0 (by decide)).trans ((hg1402 a0 7 0 0 hs_a0 (by decide)).trans ((hg986 a0 7 0 0 hs_a0 (by decide)).trans en0))) kd44_6.2.2.1 ?_
                  refine X_iadd hK kd44_6.2.2.2.1 ?_
                  have hPg1622 := xPh_le (n := n0) (xv g1622 w4) (xv g1622 w7) (by omega)
                  refine X_icmp_gt hK 112 (by omega) (by omega) kd44_6.2.2.2.2.1 (by decide) (fun c1657 => False.elim (by omega)) (fun c1657 => ?_)
                  refine X_aloadn hK (i := 0) 1 kd44_6.2.2.2.2.2.1 rfl rfl ?_
                  refine X_callV hK [] [] lk_X6_54 (c2_boyWithout _ _ _ _ _ S g1622 a0 n0 w3 hs_a0 (by omega) ((hg1622 a0 7 0 0 hs_a0 (by decide)).trans ((hg1402 a0 7 0 0 hs_a0 (by decide)).trans ((hg986 a0 7 0 0 hs_a0 (by decide)).trans en0))) ((hg1622 a0 7 0 3 hs_a0 (by decide)).trans ((hg1402 a0 7 0 3 hs_a0 (by decide)).trans ((hg986 a0 7 0 3 hs_a0 (by decide)).trans ew3))) hs_w3) hs_a0 ⟨by decide, rfl⟩ kd44_6.2.2.2.2.2.2.1 rfl rfl (by simp [Value.category]) (by decide) (by decide) (by decide) (by decide) (fun r1658 S1660 g1659 pr1658 qr1658 hg1659 => ?_)
                  obtain ⟨rfl, rfl, z1661, rfl, lz1661, uz1661, k1662, k1663⟩ := pr1658
                  refine X_st [.int (iI z1661)] rfl ?_
                  refine X_istoren hK (i := 2) [(2, .int (iI z1661)), (1, .int (iI z1621)), (0, .ref a0)] kd44_6.2.2.2.2.2.2.2.1 rfl (by decide) rfl ?_
                  refine X_iloadn hK (i := 2) 0 kd44_6.2.2.2.2.2.2.2.2.1 rfl rfl ?_
                  refine X_iconst hK kd44_6.2.2.2.2.2.2.2.2.2.1 ?_
                  refine X_icmp_ne hK 86 (by omega) (by omega) kd44_6.2.2.2.2.2.2.2.2.2.2.1 (by decide) (fun c1664 => ?_) (fun c1664 => ?_)
                  · refine X_aloadn hK (i := 0) 2 kd44_7.2.1 rfl rfl ?_
                    refine X_iloadn hK (i := 2) 0 kd44_7.2.2.1 rfl rfl ?_
                    refine X_callV hK [.int (iI z1661)] [] lk_X6_58 (c2_dearestOf _ _ _ _ _ S g1622 a0 z1661 n0 w3 w4 w7 w1 hs_a0 (by omega) (by omega) ((hg1622 a0 7 0 0 hs_a0 (by decide)).trans ((hg1402 a0 7 0 0 hs_a0 (by decide)).trans ((hg986 a0 7 0 0 hs_a0 (by decide)).trans en0))) ((hg1622 a0 7 0 3 hs_a0 (by decide)).trans ((hg1402 a0 7 0 3 hs_a0 (by decide)).trans ((hg986 a0 7 0 3 hs_a0 (by decide)).trans ew3))) hs_w3 ((hg1622 a0 7 0 4 hs_a0 (by decide)).trans ((hg1402 a0 7 0 4 hs_a0 (by decide)).trans ((hg986 a0 7 0 4 hs_a0 (by decide)).trans ew4))) hs_w4 ((hg1622 a0 7 0 7 hs_a0 (by decide)).trans ((hg1402 a0 7 0 7 hs_a0 (by decide)).trans ((hg986 a0 7 0 7 hs_a0 (by decide)).trans ew7))) hs_w7 ((hg1622 a0 7 0 1 hs_a0 (by decide)).trans ((hg1402 a0 7 0 1 hs_a0 (by decide)).trans ((hg986 a0 7 0 1 hs_a0 (by decide)).trans ew1))) hs_w1 v1652 (by omega) (by omega)) hs_a0 ⟨by decide, rfl⟩ kd44_7.2.2.2.1 rfl rfl (by simp [Value.category]) (by decide) (by decide) (by decide) (by decide) (fun r1665 S1667 g1666 pr1665 qr1665 hg1666 => ?_)
                    obtain ⟨rfl, rfl, z1668, rfl, lz1668, uz1668, k1669, k1670⟩ := pr1665
                    refine X_st [.int (iI z1668)] rfl ?_
                    refine X_istoren hK (i := 3) [(3, .int (iI z1668)), (2, .int (iI z1661)), (1, .int (iI z1621)), (0, .ref a0)] kd44_7.2.2.2.2.1 rfl (by decide) rfl ?_
                    refine X_iloadn hK (i := 3) 0 kd44_7.2.2.2.2.2.1 rfl rfl ?_
                    refine X_iconst hK kd44_7.2.2.2.2.2.2.1 ?_
                    refine X_icmp_ne hK 100 (by omega) (by omega) kd44_7.2.2.2.2.2.2.2.1 (by decide) (fun c1671 => ?_) (fun c1671 => False.elim (by omega))
                    refine X_aloadn hK (i := 0) 3 kd44_7.2.2.2.2.2.2.2.2.2.1 rfl rfl ?_
                    refine X_iloadn hK (i := 2) 1 kd44_7.2.2.2.2.2.2.2.2.2.2.1 rfl rfl ?_
                    refine X_iloadn hK (i := 3) 0 kd44_7.2.2.2.2.2.2.2.2.2.2.2 rfl rfl ?_
                    refine X_callV hK [.int (iI z1661), .int (iI z1668)] [] lk_X6_62 (c2_ask _ _ _ _ _ S g1622 a0 z1661 z1668 n0 w3 w4 w7 w1 w2 hs_a0 (by omega) (by omega) (by omega) ((hg1622 a0 7 0 0 hs_a0 (by decide)).trans ((hg1402 a0 7 0 0 hs_a0 (by decide)).trans ((hg986 a0 7 0 0 hs_a0 (by decide)).trans en0))) ((hg1622 a0 7 0 3 hs_a0 (by decide)).trans ((hg1402 a0 7 0 3 hs_a0 (by decide)).trans ((hg986 a0 7 0 3 hs_a0 (by decide)).trans ew3))) hs_w3 ((hg1622 a0 7 0 4 hs_a0 (by decide)).trans ((hg1402 a0 7 0 4 hs_a0 (by decide)).trans ((hg986 a0 7 0 4 hs_a0 (by decide)).trans ew4))) hs_w4 ((hg1622 a0 7 0 7 hs_a0 (by decide)).trans ((hg1402 a0 7 0 7 hs_a0 (by decide)).trans ((hg986 a0 7 0 7 hs_a0 (by decide)).trans ew7))) hs_w7 ((hg1622 a0 7 0 1 hs_a0 (by decide)).trans ((hg1402 a0 7 0 1 hs_a0 (by decide)).trans ((hg986 a0 7 0 1 hs_a0 (by decide)).trans ew1))) hs_w1 ((hg1622 a0 7 0 2 hs_a0 (by decide)).trans ((hg1402 a0 7 0 2 hs_a0 (by decide)).trans ((hg986 a0 7 0 2 hs_a0 (by decide)).trans ew2))) hs_w2 v1652 (by omega) (by omega) (by omega) v1654 k1670) hs_a0 ⟨by decide, rfl⟩ kd44_8.1 rfl rfl (by simp [Value.category]) (by decide) (by decide) (by decide) (by decide) (fun r1672 S1674 g1673 pr1672 qr1672 hg1673 => ?_)
                    obtain ⟨rfl, rfl, k1675, k1676, k1677⟩ := pr1672
                    refine X_st [] rfl ?_
                    have hhk1675 := k1675.2
                    refine X_iinc hK (i := 1) (z := z1621) (n := 1) 2 [(1, .int (iI (z1621 + 1))), (3, .int (iI z1668)), (2, .int (iI z1661)), (0, .ref a0)] kd44_8.2.1 rfl (by decide) rfl ?_
                    refine X_goto hK 54 kd44_8.2.2.1 (by decide) ?_
                    refine X_lv [(1, .int (iI (z1621 + 1))), (0, .ref a0)] [0, 3] rfl ?_
                    exact ihP1651  g1673 (xM.tr (xM.tr xM.rf xLe.rf hg1622 (by decide)) xLe.rf hg1673 (by decide)) (z1621 + 1) (by omega) (by omega) k1675.1 (by omega) k1677 (xFr.tr v1655 k1676) (by omega)
                  · refine X_iconst hK kd44_6.2.2.2.2.2.2.2.2.2.2.2 ?_
                    refine X_goto hK 91 kd44_7.1 (by decide) ?_
                    refine X_istoren hK (i := 3) [(3, .int (iI (-1))), (2, .int (iI z1661)), (1, .int (iI z1621)), (0, .ref a0)] kd44_7.2.2.2.2.1 rfl (by decide) rfl ?_
                    refine X_iloadn hK (i := 3) 0 kd44_7.2.2.2.2.2.1 rfl rfl ?_
                    refine X_iconst hK kd44_7.2.2.2.2.2.2.1 ?_
                    refine X_icmp_ne hK 100 (by omega) (by omega) kd44_7.2.2.2.2.2.2.2.1 (by decide) (fun c1678 => False.elim (by omega)) (fun c1678 => ?_)
                    refine X_goto hK 112 kd44_7.2.2.2.2.2.2.2.2.1 (by decide) ?_
                    refine X_aloadn hK (i := 0) 3 kd44_8.2.2.2.1 rfl rfl ?_
                    refine X_callV hK [] [] lk_X6_66 (c3_gained _ _ _ _ _ S g1622 a0 n0 w3 w1 hs_a0 (by omega) ((hg1622 a0 7 0 0 hs_a0 (by decide)).trans ((hg1402 a0 7 0 0 hs_a0 (by decide)).trans ((hg986 a0 7 0 0 hs_a0 (by decide)).trans en0))) ((hg1622 a0 7 0 3 hs_a0 (by decide)).trans ((hg1402 a0 7 0 3 hs_a0 (by decide)).trans ((hg986 a0 7 0 3 hs_a0 (by decide)).trans ew3))) hs_w3 ((hg1622 a0 7 0 1 hs_a0 (by decide)).trans ((hg1402 a0 7 0 1 hs_a0 (by decide)).trans ((hg986 a0 7 0 1 hs_a0 (by decide)).trans ew1))) hs_w1 (xOf.co v1652 (k1662 (by omega)))) hs_a0 ⟨by decide, rfl⟩ kd44_8.2.2.2.2.1 rfl rfl (by simp [Value.category]) (by decide) (by decide) (by decide) (by decide) (fun r1679 S1681 g1680 pr1679 qr1679 hg1680 => ?_)
                    obtain ⟨rfl, rfl, z1682, rfl, lz1682, uz1682, k1683⟩ := pr1679
                    refine X_st [.int (iI z1682)] rfl ?_
                    exact hret _ _ _ _ _ _ _ kd44_8.2.2.2.2.2 ⟨rfl, z1682, rfl, (by omega), (by omega), (xOf.co v1652 (k1662 (by omega))), v1655, (by rw [← (Eq.trans (Eq.trans (xv_m hg1622 hs_w1 (by decide) (by decide)) (xv_m hg1402 hs_w1 (by decide) (by decide))) (xv_m hg986 hs_w1 (by decide) (by decide))), ← (Eq.trans (Eq.trans (xv_m hg1622 hs_w2 (by decide) (by decide)) (xv_m hg1402 hs_w2 (by decide) (by decide))) (xv_m hg986 hs_w2 (by decide) (by decide)))]; exact xDa.fin v1654 v1652 (k1662 (by omega))), k1683⟩ (Nat.le_refl _) (Nat.le_refl _)
              exact P1651 ((89 - 0 : Int).toNat + 1) g1402 xM.rf 0 (by omega) (by omega) (xOf.ini (fun k q1 q2 => by rw [(xv_m hg1402 hs_w3 (by decide) (by decide))]; exact v1126 k q1 (by omega)) (fun k q1 q2 => by rw [(xv_m hg1402 hs_w4 (by decide) (by decide))]; exact v1127 k q1 (by omega)) (fun k q1 q2 => v1469 k q1 (by omega)) (by omega)) (by have h9 := xPh_le (n := n0) (xv g1402 w4) (xv g1402 w7) (by omega); omega) (xDa.ini (fun k q1 q2 => by rw [(xv_m hg1402 hs_w3 (by decide) (by decide))]; exact v1126 k q1 (by omega)) (fun k q1 q2 => v1469 k q1 (by omega)) (by omega)) v1470 (by omega)
            · refine X_aloadn hK (i := 0) 1 kd44_4.2.2.2.2.2.2.2.2.2.2.1 rfl rfl ?_
              refine X_getK hK fl_X6_34_7 hs_a0 ((hg1402 a0 7 0 7 hs_a0 (by decide)).trans ((hg986 a0 7 0 7 hs_a0 (by decide)).trans ew7)) kd44_4.2.2.2.2.2.2.2.2.2.2.2 ?_
              refine X_iloadn hK (i := 1) 0 kd44_5.1 rfl rfl ?_
              refine X_iconst hK kd44_5.2.1 ?_
              refine X_zast hK hs_w7 (by decide) (by decide) sl_12701 (by omega) (by omega) (by omega) (by omega) kd44_5.2.2.1 (fun g1684 hg1684 => ?_)
              refine X_iinc hK (i := 1) (z := z1401) (n := 1) 0 [(1, .int (iI (z1401 + 1))), (0, .ref a0)] kd44_5.2.2.2.1 rfl (by decide) rfl ?_
              refine X_goto hK 30 kd44_5.2.2.2.2.1 (by decide) ?_
              exact ihP1468  g1684 (xM_ua (xM.tr xM.rf xLe.rf hg1402 (by decide)) hg1684 hs_w7 (by decide) (by decide)) (z1401 + 1) (by omega) (by omega) (xpre (P := fun x => x = 0) v1469 (fun i9 hi9 h09 => (show xv g1684 w7 i9 = xv g1402 w7 i9 from by rw [(xv_k (i := i9) hg1684 (by omega) (by omega) (by omega))])) (show xv g1684 w7 z1401 = 0 from by rw [xv_s hg1684 (by omega)])) (xFr.t v1470 hg1684 hs_w7 (by decide)) (by omega)
        exact P1468 ((80 - 0 : Int).toNat + 1) g986 xM.rf 0 (by omega) (by omega) (fun k q1 q2 => by omega) v1128 (by omega)
      · refine X_aloadn hK (i := 0) 1 kd44_3.2.2.2.1 rfl rfl ?_
        refine X_getK hK fl_X6_22_7 hs_a0 ((hg986 a0 7 0 3 hs_a0 (by decide)).trans ew3) kd44_3.2.2.2.2.1 ?_
        refine X_iloadn hK (i := 1) 0 kd44_3.2.2.2.2.2.1 rfl rfl ?_
        refine X_iconst hK kd44_3.2.2.2.2.2.2.1 ?_
        refine X_iast hK hs_w3 (by decide) (by decide) sl_12300 (by omega) (by omega) (by omega) (by omega) kd44_3.2.2.2.2.2.2.2.1 (fun g1685 hg1685 => ?_)
        refine X_aloadn hK (i := 0) 1 kd44_3.2.2.2.2.2.2.2.2.1 rfl rfl ?_
        refine X_getK hK fl_X6_25_7 hs_a0 ((xs_a hg1685 (xne hs_a0 hs_w3 (by decide))).trans ((hg986 a0 7 0 4 hs_a0 (by decide)).trans ew4)) kd44_3.2.2.2.2.2.2.2.2.2.1 ?_
        refine X_iloadn hK (i := 1) 0 kd44_3.2.2.2.2.2.2.2.2.2.2.1 rfl rfl ?_
        refine X_iconst hK kd44_3.2.2.2.2.2.2.2.2.2.2.2 ?_
        refine X_iast hK hs_w4 (by decide) (by decide) sl_12400 (by omega) (by omega) (by omega) (by omega) kd44_4.1 (fun g1686 hg1686 => ?_)
        refine X_iinc hK (i := 1) (z := z985) (n := 1) 0 [(1, .int (iI (z985 + 1))), (0, .ref a0)] kd44_4.2.1 rfl (by decide) rfl ?_
        refine X_goto hK 2 kd44_4.2.2.1 (by decide) ?_
        exact ihP1125  g1686 (xM_ua (xM_ua (xM.tr xM.rf xLe.rf hg986 (by decide)) hg1685 hs_w3 (by decide) (by decide)) hg1686 hs_w4 (by decide) (by decide)) (z985 + 1) (by omega) (by omega) (xpre (P := fun x => x = -1) v1126 (fun i9 hi9 h09 => (show xv g1686 w3 i9 = xv g986 w3 i9 from by rw [(xv_a hg1686 (xne hs_w3 hs_w4 (by decide))), (xv_k (i := i9) hg1685 (by omega) (by omega) (by omega))])) (show xv g1686 w3 z985 = (-1) from by rw [(xv_a hg1686 (xne hs_w3 hs_w4 (by decide))), xv_s hg1685 (by omega)])) (xpre (P := fun x => x = -1) v1127 (fun i9 hi9 h09 => (show xv g1686 w4 i9 = xv g986 w4 i9 from by rw [(xv_k (i := i9) hg1686 (by omega) (by omega) (by omega)), (xv_a hg1685 (xne hs_w4 hs_w3 (by decide)))])) (show xv g1686 w4 z985 = (-1) from by rw [xv_s hg1686 (by omega)])) (xFr.t (xFr.w v1128 hg1685) hg1686 hs_w4 (by decide)) (by omega)
  exact P1125 ((24 - 0 : Int).toNat + 1) g xM.rf 0 (by omega) (by omega) (fun k q1 q2 => by omega) (fun k q1 q2 => by omega) xFr.rf (by omega)
