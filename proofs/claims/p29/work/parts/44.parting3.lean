theorem m_49_9 : Cond.methodLink RX6 54 yX6_boyWithout ∈ wsL_law := ch_49 _ (List.mem_of_getElem? (i := 9) rfl)
theorem m_49_10 : Cond.instanceMethod yX6_boyWithout ∈ wsL_law := ch_49 _ (List.mem_of_getElem? (i := 10) rfl)
theorem m_49_11 : Cond.selects RX6 yX6_boyWithout yX6_boyWithout ∈ wsL_law := ch_49 _ (List.mem_of_getElem? (i := 11) rfl)
theorem m_49_12 : Cond.code yX6_boyWithout cX6_boyWithout 2 (some .int) ∈ wsL_law := ch_49 _ (List.mem_of_getElem? (i := 12) rfl)
theorem m_49_13 : Cond.methodLink RX6 58 yX6_dearestOf ∈ wsL_law := ch_49 _ (List.mem_of_getElem? (i := 13) rfl)
theorem m_49_14 : Cond.instanceMethod yX6_dearestOf ∈ wsL_law := ch_49 _ (List.mem_of_getElem? (i := 14) rfl)
theorem m_49_15 : Cond.selects RX6 yX6_dearestOf yX6_dearestOf ∈ wsL_law := ch_49 _ (List.mem_of_getElem? (i := 15) rfl)
theorem m_49_16 : Cond.code yX6_dearestOf cX6_dearestOf 5 (some .int) ∈ wsL_law := ch_49 _ (List.mem_of_getElem? (i := 16) rfl)
theorem m_49_17 : Cond.methodLink RX6 62 yX6_ask ∈ wsL_law := ch_49 _ (List.mem_of_getElem? (i := 17) rfl)
theorem m_49_18 : Cond.instanceMethod yX6_ask ∈ wsL_law := ch_49 _ (List.mem_of_getElem? (i := 18) rfl)
theorem m_49_19 : Cond.selects RX6 yX6_ask yX6_ask ∈ wsL_law := ch_49 _ (List.mem_of_getElem? (i := 19) rfl)
theorem m_49_20 : Cond.code yX6_ask cX6_ask 4 none ∈ wsL_law := ch_49 _ (List.mem_of_getElem? (i := 20) rfl)
theorem m_50_1 : Cond.methodLink RX6 66 yX6_gained ∈ wsL_law := ch_50 _ (List.mem_of_getElem? (i := 1) rfl)
theorem m_50_2 : Cond.instanceMethod yX6_gained ∈ wsL_law := ch_50 _ (List.mem_of_getElem? (i := 2) rfl)
theorem m_50_3 : Cond.selects RX6 yX6_gained yX6_gained ∈ wsL_law := ch_50 _ (List.mem_of_getElem? (i := 3) rfl)
theorem m_50_4 : Cond.code yX6_gained cX6_gained 3 (some .int) ∈ wsL_law := ch_50 _ (List.mem_of_getElem? (i := 4) rfl)
theorem dX6_hasPeace_0 : decode cX6_hasPeace 0 = .ok (.iconst 0, 1) := by decide +kernel
theorem dX6_hasPeace_1 : decode cX6_hasPeace 1 = .ok (.istore_n 2, 1) := by decide +kernel
theorem dX6_hasPeace_2 : decode cX6_hasPeace 2 = .ok (.iload_n 2, 1) := by decide +kernel
theorem dX6_hasPeace_3 : decode cX6_hasPeace 3 = .ok (.aload_n 0, 1) := by decide +kernel
theorem dX6_hasPeace_4 : decode cX6_hasPeace 4 = .ok (.getfield 9, 3) := by decide +kernel
theorem dX6_hasPeace_7 : decode cX6_hasPeace 7 = .ok (.if_icmp .ge 49, 3) := by decide +kernel
theorem dX6_hasPeace_10 : decode cX6_hasPeace 10 = .ok (.iconst 0, 1) := by decide +kernel
theorem dX6_hasPeace_11 : decode cX6_hasPeace 11 = .ok (.istore_n 3, 1) := by decide +kernel
theorem dX6_hasPeace_12 : decode cX6_hasPeace 12 = .ok (.iload_n 3, 1) := by decide +kernel
theorem dX6_hasPeace_13 : decode cX6_hasPeace 13 = .ok (.aload_n 0, 1) := by decide +kernel
theorem dX6_hasPeace_14 : decode cX6_hasPeace 14 = .ok (.getfield 9, 3) := by decide +kernel
theorem dX6_hasPeace_17 : decode cX6_hasPeace 17 = .ok (.if_icmp .ge 33, 3) := by decide +kernel
theorem dX6_hasPeace_20 : decode cX6_hasPeace 20 = .ok (.aload_n 0, 1) := by decide +kernel
theorem dX6_hasPeace_21 : decode cX6_hasPeace 21 = .ok (.iload_n 2, 1) := by decide +kernel
theorem dX6_hasPeace_22 : decode cX6_hasPeace 22 = .ok (.aload_n 0, 1) := by decide +kernel
theorem dX6_hasPeace_23 : decode cX6_hasPeace 23 = .ok (.getfield 22, 3) := by decide +kernel
theorem dX6_hasPeace_26 : decode cX6_hasPeace 26 = .ok (.iload_n 2, 1) := by decide +kernel
theorem dX6_hasPeace_27 : decode cX6_hasPeace 27 = .ok (.iaload, 1) := by decide +kernel
theorem dX6_hasPeace_28 : decode cX6_hasPeace 28 = .ok (.iload_n 3, 1) := by decide +kernel
theorem dX6_hasPeace_29 : decode cX6_hasPeace 29 = .ok (.aload_n 0, 1) := by decide +kernel
theorem dX6_hasPeace_30 : decode cX6_hasPeace 30 = .ok (.getfield 22, 3) := by decide +kernel
theorem dX6_hasPeace_33 : decode cX6_hasPeace 33 = .ok (.iload_n 3, 1) := by decide +kernel
theorem dX6_hasPeace_34 : decode cX6_hasPeace 34 = .ok (.iaload, 1) := by decide +kernel
theorem dX6_hasPeace_35 : decode cX6_hasPeace 35 = .ok (.iload_n 1, 1) := by decide +kernel
theorem dX6_hasPeace_36 : decode cX6_hasPeace 36 = .ok (.invokevirtual 50, 3) := by decide +kernel
theorem dX6_hasPeace_39 : decode cX6_hasPeace 39 = .ok (.ifCond .eq 5, 3) := by decide +kernel
theorem dX6_hasPeace_42 : decode cX6_hasPeace 42 = .ok (.iconst 0, 1) := by decide +kernel
theorem dX6_hasPeace_43 : decode cX6_hasPeace 43 = .ok (.ireturn, 1) := by decide +kernel
theorem dX6_hasPeace_44 : decode cX6_hasPeace 44 = .ok (.iinc 3 1, 3) := by decide +kernel
theorem dX6_hasPeace_47 : decode cX6_hasPeace 47 = .ok (.goto (-35), 3) := by decide +kernel
theorem dX6_hasPeace_50 : decode cX6_hasPeace 50 = .ok (.iinc 2 1, 3) := by decide +kernel
theorem dX6_hasPeace_53 : decode cX6_hasPeace 53 = .ok (.goto (-51), 3) := by decide +kernel
theorem dX6_hasPeace_56 : decode cX6_hasPeace 56 = .ok (.iconst 1, 1) := by decide +kernel
theorem dX6_hasPeace_57 : decode cX6_hasPeace 57 = .ok (.ireturn, 1) := by decide +kernel
theorem dX6_partByOffers_0 : decode cX6_partByOffers 0 = .ok (.iconst 0, 1) := by decide +kernel
theorem dX6_partByOffers_1 : decode cX6_partByOffers 1 = .ok (.istore_n 1, 1) := by decide +kernel
theorem dX6_partByOffers_2 : decode cX6_partByOffers 2 = .ok (.iload_n 1, 1) := by decide +kernel
theorem dX6_partByOffers_3 : decode cX6_partByOffers 3 = .ok (.bipush 8, 2) := by decide +kernel
theorem dX6_partByOffers_5 : decode cX6_partByOffers 5 = .ok (.if_icmp .ge 23, 3) := by decide +kernel
theorem dX6_partByOffers_8 : decode cX6_partByOffers 8 = .ok (.aload_n 0, 1) := by decide +kernel
theorem dX6_partByOffers_9 : decode cX6_partByOffers 9 = .ok (.getfield 22, 3) := by decide +kernel
theorem dX6_partByOffers_12 : decode cX6_partByOffers 12 = .ok (.iload_n 1, 1) := by decide +kernel
theorem dX6_partByOffers_13 : decode cX6_partByOffers 13 = .ok (.iconst (-1), 1) := by decide +kernel
theorem dX6_partByOffers_14 : decode cX6_partByOffers 14 = .ok (.iastore, 1) := by decide +kernel
theorem dX6_partByOffers_15 : decode cX6_partByOffers 15 = .ok (.aload_n 0, 1) := by decide +kernel
theorem dX6_partByOffers_16 : decode cX6_partByOffers 16 = .ok (.getfield 25, 3) := by decide +kernel
theorem dX6_partByOffers_19 : decode cX6_partByOffers 19 = .ok (.iload_n 1, 1) := by decide +kernel
theorem dX6_partByOffers_20 : decode cX6_partByOffers 20 = .ok (.iconst (-1), 1) := by decide +kernel
theorem dX6_partByOffers_21 : decode cX6_partByOffers 21 = .ok (.iastore, 1) := by decide +kernel
theorem dX6_partByOffers_22 : decode cX6_partByOffers 22 = .ok (.iinc 1 1, 3) := by decide +kernel
theorem dX6_partByOffers_25 : decode cX6_partByOffers 25 = .ok (.goto (-23), 3) := by decide +kernel
theorem dX6_partByOffers_28 : decode cX6_partByOffers 28 = .ok (.iconst 0, 1) := by decide +kernel
theorem dX6_partByOffers_29 : decode cX6_partByOffers 29 = .ok (.istore_n 1, 1) := by decide +kernel
theorem dX6_partByOffers_30 : decode cX6_partByOffers 30 = .ok (.iload_n 1, 1) := by decide +kernel
theorem dX6_partByOffers_31 : decode cX6_partByOffers 31 = .ok (.aload_n 0, 1) := by decide +kernel
theorem dX6_partByOffers_32 : decode cX6_partByOffers 32 = .ok (.getfield 34, 3) := by decide +kernel
theorem dX6_partByOffers_35 : decode cX6_partByOffers 35 = .ok (.arraylength, 1) := by decide +kernel
theorem dX6_partByOffers_36 : decode cX6_partByOffers 36 = .ok (.if_icmp .ge 16, 3) := by decide +kernel
theorem dX6_partByOffers_39 : decode cX6_partByOffers 39 = .ok (.aload_n 0, 1) := by decide +kernel
theorem dX6_partByOffers_40 : decode cX6_partByOffers 40 = .ok (.getfield 34, 3) := by decide +kernel
theorem dX6_partByOffers_43 : decode cX6_partByOffers 43 = .ok (.iload_n 1, 1) := by decide +kernel
theorem dX6_partByOffers_44 : decode cX6_partByOffers 44 = .ok (.iconst 0, 1) := by decide +kernel
theorem dX6_partByOffers_45 : decode cX6_partByOffers 45 = .ok (.bastore, 1) := by decide +kernel
theorem dX6_partByOffers_46 : decode cX6_partByOffers 46 = .ok (.iinc 1 1, 3) := by decide +kernel
theorem dX6_partByOffers_49 : decode cX6_partByOffers 49 = .ok (.goto (-19), 3) := by decide +kernel
theorem dX6_partByOffers_52 : decode cX6_partByOffers 52 = .ok (.iconst 0, 1) := by decide +kernel
theorem dX6_partByOffers_53 : decode cX6_partByOffers 53 = .ok (.istore_n 1, 1) := by decide +kernel
theorem dX6_partByOffers_54 : decode cX6_partByOffers 54 = .ok (.iload_n 1, 1) := by decide +kernel
theorem dX6_partByOffers_55 : decode cX6_partByOffers 55 = .ok (.aload_n 0, 1) := by decide +kernel
theorem dX6_partByOffers_56 : decode cX6_partByOffers 56 = .ok (.getfield 9, 3) := by decide +kernel
theorem dX6_partByOffers_59 : decode cX6_partByOffers 59 = .ok (.aload_n 0, 1) := by decide +kernel
theorem dX6_partByOffers_60 : decode cX6_partByOffers 60 = .ok (.getfield 9, 3) := by decide +kernel
theorem dX6_partByOffers_63 : decode cX6_partByOffers 63 = .ok (.imul, 1) := by decide +kernel
theorem dX6_partByOffers_64 : decode cX6_partByOffers 64 = .ok (.aload_n 0, 1) := by decide +kernel
theorem dX6_partByOffers_65 : decode cX6_partByOffers 65 = .ok (.getfield 9, 3) := by decide +kernel
theorem dX6_partByOffers_68 : decode cX6_partByOffers 68 = .ok (.iadd, 1) := by decide +kernel
theorem dX6_partByOffers_69 : decode cX6_partByOffers 69 = .ok (.if_icmp .gt 43, 3) := by decide +kernel
theorem dX6_partByOffers_72 : decode cX6_partByOffers 72 = .ok (.aload_n 0, 1) := by decide +kernel
theorem dX6_partByOffers_73 : decode cX6_partByOffers 73 = .ok (.invokevirtual 54, 3) := by decide +kernel
theorem dX6_partByOffers_76 : decode cX6_partByOffers 76 = .ok (.istore_n 2, 1) := by decide +kernel
theorem dX6_partByOffers_77 : decode cX6_partByOffers 77 = .ok (.iload_n 2, 1) := by decide +kernel
theorem dX6_partByOffers_78 : decode cX6_partByOffers 78 = .ok (.iconst (-1), 1) := by decide +kernel
theorem dX6_partByOffers_79 : decode cX6_partByOffers 79 = .ok (.if_icmp .ne 7, 3) := by decide +kernel
theorem dX6_partByOffers_82 : decode cX6_partByOffers 82 = .ok (.iconst (-1), 1) := by decide +kernel
theorem dX6_partByOffers_83 : decode cX6_partByOffers 83 = .ok (.goto 8, 3) := by decide +kernel
theorem dX6_partByOffers_86 : decode cX6_partByOffers 86 = .ok (.aload_n 0, 1) := by decide +kernel
theorem dX6_partByOffers_87 : decode cX6_partByOffers 87 = .ok (.iload_n 2, 1) := by decide +kernel
theorem dX6_partByOffers_88 : decode cX6_partByOffers 88 = .ok (.invokevirtual 58, 3) := by decide +kernel
theorem dX6_partByOffers_91 : decode cX6_partByOffers 91 = .ok (.istore_n 3, 1) := by decide +kernel
theorem dX6_partByOffers_92 : decode cX6_partByOffers 92 = .ok (.iload_n 3, 1) := by decide +kernel
theorem dX6_partByOffers_93 : decode cX6_partByOffers 93 = .ok (.iconst (-1), 1) := by decide +kernel
theorem dX6_partByOffers_94 : decode cX6_partByOffers 94 = .ok (.if_icmp .ne 6, 3) := by decide +kernel
theorem dX6_partByOffers_97 : decode cX6_partByOffers 97 = .ok (.goto 15, 3) := by decide +kernel
theorem dX6_partByOffers_100 : decode cX6_partByOffers 100 = .ok (.aload_n 0, 1) := by decide +kernel
theorem dX6_partByOffers_101 : decode cX6_partByOffers 101 = .ok (.iload_n 2, 1) := by decide +kernel
theorem dX6_partByOffers_102 : decode cX6_partByOffers 102 = .ok (.iload_n 3, 1) := by decide +kernel
theorem dX6_partByOffers_103 : decode cX6_partByOffers 103 = .ok (.invokevirtual 62, 3) := by decide +kernel
theorem dX6_partByOffers_106 : decode cX6_partByOffers 106 = .ok (.iinc 1 1, 3) := by decide +kernel
theorem dX6_partByOffers_109 : decode cX6_partByOffers 109 = .ok (.goto (-55), 3) := by decide +kernel
theorem dX6_partByOffers_112 : decode cX6_partByOffers 112 = .ok (.aload_n 0, 1) := by decide +kernel
theorem dX6_partByOffers_113 : decode cX6_partByOffers 113 = .ok (.invokevirtual 66, 3) := by decide +kernel
theorem dX6_partByOffers_116 : decode cX6_partByOffers 116 = .ok (.ireturn, 1) := by decide +kernel
theorem lk_X6_54 : xLV RX6 54 yX6_boyWithout cX6_boyWithout 2 (some .int) 0 := ⟨m_49_9, m_49_10, m_49_11, m_3_2, m_49_12, by decide +kernel⟩
theorem lk_X6_58 : xLV RX6 58 yX6_dearestOf cX6_dearestOf 5 (some .int) 1 := ⟨m_49_13, m_49_14, m_49_15, m_3_2, m_49_16, by decide +kernel⟩
theorem lk_X6_62 : xLV RX6 62 yX6_ask cX6_ask 4 none 2 := ⟨m_49_17, m_49_18, m_49_19, m_3_2, m_49_20, by decide +kernel⟩
theorem lk_X6_66 : xLV RX6 66 yX6_gained cX6_gained 3 (some .int) 0 := ⟨m_50_1, m_50_2, m_50_3, m_3_2, m_50_4, by decide +kernel⟩
def xct (p : Int → Bool) : Nat → Nat
  | 0 => 0
  | m + 1 => xct p m + (if p m then 1 else 0)
theorem xct_le (p : Int → Bool) (m : Nat) : xct p m ≤ m := by
  induction m with
  | zero => exact Nat.le_refl _
  | succ m ih => unfold xct; split <;> omega
theorem xct_eq {p q : Int → Bool} {m : Nat} (h : ∀ k : Nat, k < m → p k = q k) : xct p m = xct q m := by
  induction m with
  | zero => rfl
  | succ m ih =>
    have := ih (fun k hk => h k (by omega))
    unfold xct
    rw [this, h m (by omega)]
theorem xct_up {p q : Int → Bool} {m j : Nat} (hj : j < m) (h0 : p j = false) (h1 : q j = true) (h : ∀ k : Nat, k < m → k ≠ j → q k = p k) : xct q m = xct p m + 1 := by
  induction m with
  | zero => omega
  | succ m ih =>
    unfold xct
    by_cases e : j = m
    · subst e
      rw [h0, h1, xct_eq (p := q) (q := p) (fun k hk => h k (by omega) (by omega))]
      simp
    · rw [ih (by omega) (fun k hk hn => h k (by omega) hn), h m (by omega) (fun q => e q.symm)]
      omega
def xsm (f : Nat → Nat) : Nat → Nat
  | 0 => 0
  | m + 1 => xsm f m + f m
theorem xsm_le {f : Nat → Nat} {B : Nat} (h : ∀ k, f k ≤ B) (m : Nat) : xsm f m ≤ m * B := by
  induction m with
  | zero => simp [xsm]
  | succ m ih => unfold xsm; have := h m; rw [Nat.succ_mul]; omega
theorem xsm_eq {f f' : Nat → Nat} {m : Nat} (h : ∀ k, k < m → f' k = f k) : xsm f' m = xsm f m := by
  induction m with
  | zero => rfl
  | succ m ih => unfold xsm; rw [ih (fun k hk => h k (by omega)), h m (by omega)]
theorem xsm_up {f f' : Nat → Nat} {m j : Nat} (hj : j < m) (h1 : f' j = f j + 1) (h : ∀ k, k < m → k ≠ j → f' k = f k) : xsm f' m = xsm f m + 1 := by
  induction m with
  | zero => omega
  | succ m ih =>
    unfold xsm
    by_cases e : j = m
    · subst e
      rw [h1, xsm_eq (fun k hk => h k (by omega) (by omega))]
      omega
    · rw [ih (by omega) (fun k hk hn => h k (by omega) hn), h m (by omega) (fun q => e q.symm)]
      omega
def xPh (n : Int) (bo sa : Int → Int) : Int := ((xct (fun k => decide (bo k ≠ -1)) n.toNat + xsm (fun x => xct (fun c => decide (sa (8 * (x : Int) + c) ≠ 0)) n.toNat) n.toNat : Nat) : Int)
theorem xPh_le {n : Int} (bo sa : Int → Int) (hn : 0 ≤ n) : 0 ≤ xPh n bo sa ∧ xPh n bo sa ≤ n * n + n := by
  unfold xPh
  have h1 := xct_le (fun k => decide (bo k ≠ -1)) n.toNat
  have h2 := xsm_le (f := fun x => xct (fun c => decide (sa (8 * (x : Int) + c) ≠ 0)) n.toNat) (B := n.toNat) (fun k => xct_le _ _) n.toNat
  have h3 : ((n.toNat * n.toNat : Nat) : Int) = n * n := by
    rw [Int.natCast_mul, Int.toNat_of_nonneg hn]
  omega
def xOf (n : Int) (co bo sa : Int → Int) : Prop :=
  (∀ k, 0 ≤ k → k < n → co k = -1 ∨ (0 ≤ co k ∧ co k < n ∧ bo (co k) = k)) ∧
  (∀ k, 0 ≤ k → k < n → bo k = -1 ∨ (0 ≤ bo k ∧ bo k < n ∧ co (bo k) = k)) ∧
  (∀ x k, 0 ≤ x → x < n → 0 ≤ k → k < n → sa (8 * x + k) ≠ 0 → bo k ≠ -1 ∧ bo k ≠ x)
def xCo (n : Int) (co : Int → Int) : Prop := ∀ k, 0 ≤ k → k < n → 0 ≤ co k
theorem xOf.co {n : Int} {co bo sa : Int → Int} (h : xOf n co bo sa) (hn : ∀ k, 0 ≤ k → k < n → co k ≠ -1) : xCo n co := fun k h1 h2 => by
  have := h.1 k h1 h2
  have := hn k h1 h2
  omega
theorem xOf.ini {n : Int} {co bo sa : Int → Int} (h1 : ∀ k, 0 ≤ k → k < n → co k = -1) (h2 : ∀ k, 0 ≤ k → k < n → bo k = -1) (h3 : ∀ k, 0 ≤ k → k < 64 → sa k = 0) (hn : n ≤ 8) : xOf n co bo sa :=
  ⟨fun k q1 q2 => Or.inl (h1 k q1 q2), fun k q1 q2 => Or.inl (h2 k q1 q2), fun x k q1 q2 q3 q4 q5 => absurd (h3 _ (by omega) (by omega)) q5⟩
theorem xPh_1 {n : Int} {bo bo' sa sa' : Int → Int} {c : Int} (hc : 0 ≤ c ∧ c < n) (h0 : bo c = -1) (h1 : bo' c ≠ -1) (hb : ∀ i, 0 ≤ i → i ≠ c → bo' i = bo i) (hs : ∀ i, 0 ≤ i → sa' i = sa i) : xPh n bo' sa' = xPh n bo sa + 1 := by
  unfold xPh
  have e1 := xct_up (p := fun k => decide (bo k ≠ -1)) (q := fun k => decide (bo' k ≠ -1)) (m := n.toNat) (j := c.toNat) (by omega) (by simp [Int.toNat_of_nonneg hc.1, h0]) (by simp [Int.toNat_of_nonneg hc.1, h1]) (fun k hk hn => by simp only [hb k (by omega) (by omega)])
  have e2 : xsm (fun x => xct (fun c => decide (sa' (8 * (x : Int) + c) ≠ 0)) n.toNat) n.toNat = xsm (fun x => xct (fun c => decide (sa (8 * (x : Int) + c) ≠ 0)) n.toNat) n.toNat :=
    xsm_eq (fun x hx => xct_eq (fun k hk => by simp only [hs (8 * (x : Int) + k) (by omega)]))
  omega
theorem xPh_2 {n : Int} {bo bo' sa sa' : Int → Int} {x c j : Int} (hn : n ≤ 8) (hx : 0 ≤ x ∧ x < n) (hc : 0 ≤ c ∧ c < n) (hj : j = 8 * x + c) (h0 : sa j = 0) (h1 : sa' j ≠ 0) (hs : ∀ i, 0 ≤ i → i ≠ j → sa' i = sa i) (hb : ∀ k, 0 ≤ k → k < n → (bo' k = -1 ↔ bo k = -1)) : xPh n bo' sa' = xPh n bo sa + 1 := by
  subst hj
  unfold xPh
  have e1 : xct (fun k => decide (bo' k ≠ -1)) n.toNat = xct (fun k => decide (bo k ≠ -1)) n.toNat := xct_eq (fun k hk => by
    have := hb k (by omega) (by omega)
    simp only [ne_eq, this])
  have e2 := xsm_up (f := fun x => xct (fun c => decide (sa (8 * (x : Int) + c) ≠ 0)) n.toNat) (f' := fun x => xct (fun c => decide (sa' (8 * (x : Int) + c) ≠ 0)) n.toNat) (m := n.toNat) (j := x.toNat) (by omega)
    (xct_up (j := c.toNat) (by omega) (by simp [Int.toNat_of_nonneg hc.1, Int.toNat_of_nonneg hx.1, h0]) (by simp [Int.toNat_of_nonneg hc.1, Int.toNat_of_nonneg hx.1, h1]) (fun k hk hn => by simp only [Int.toNat_of_nonneg hx.1]; rw [hs (8 * x + k) (by omega) (by omega)]))
    (fun k hk hn => xct_eq (fun i hi => by simp only [hs (8 * (k : Int) + i) (by omega) (by omega)]))
  omega
theorem xOf_1 {n : Int} {co bo sa co' bo' sa' : Int → Int} {b c : Int} (h : xOf n co bo sa) (hb : 0 ≤ b ∧ b < n) (hc : 0 ≤ c ∧ c < n) (e1 : co b = -1) (e2 : bo c = -1) (c1 : co' b = c) (c2 : ∀ i, 0 ≤ i → i ≠ b → co' i = co i) (b1 : bo' c = b) (b2 : ∀ i, 0 ≤ i → i ≠ c → bo' i = bo i) (s1 : ∀ i, 0 ≤ i → sa' i = sa i) : xOf n co' bo' sa' ∧ xPh n bo' sa' = xPh n bo sa + 1 := by
  refine ⟨⟨fun k h1 h2 => ?_, fun k h1 h2 => ?_, fun x k h1 h2 h3 h4 h5 => ?_⟩, xPh_1 hc e2 (by omega) b2 s1⟩
  · by_cases e : k = b
    · subst e; rw [c1]; exact Or.inr ⟨hc.1, hc.2, b1⟩
    · rw [c2 k h1 e]
      rcases h.1 k h1 h2 with q | ⟨q1, q2, q3⟩
      · exact Or.inl q
      · have : co k ≠ c := fun w => by rw [w, e2] at q3; omega
        exact Or.inr ⟨q1, q2, (b2 _ q1 this).trans q3⟩
  · by_cases e : k = c
    · subst e; rw [b1]; exact Or.inr ⟨hb.1, hb.2, c1⟩
    · rw [b2 k h1 e]
      rcases h.2.1 k h1 h2 with q | ⟨q1, q2, q3⟩
      · exact Or.inl q
      · have : bo k ≠ b := fun w => by rw [w, e1] at q3; omega
        exact Or.inr ⟨q1, q2, (c2 _ q1 this).trans q3⟩
  · rw [s1 _ (by omega)] at h5
    have q := h.2.2 x k h1 h2 h3 h4 h5
    have : k ≠ c := fun w => by rw [w, e2] at q; omega
    rw [b2 k h3 this]
    exact q
theorem xOf_2 {n : Int} {co bo sa co' bo' sa' : Int → Int} {b c j : Int} (h : xOf n co bo sa) (hn : n ≤ 8) (hb : 0 ≤ b ∧ b < n) (hc : 0 ≤ c ∧ c < n) (hj : j = 8 * b + c) (e1 : co b = -1) (e2 : bo c ≠ -1) (e3 : sa j = 0) (s1 : sa' j = 1) (s2 : ∀ i, 0 ≤ i → i ≠ j → sa' i = sa i) (hc' : ∀ i, 0 ≤ i → co' i = co i) (hb' : ∀ i, 0 ≤ i → bo' i = bo i) : xOf n co' bo' sa' ∧ xPh n bo' sa' = xPh n bo sa + 1 := by
  refine ⟨⟨fun k h1 h2 => ?_, fun k h1 h2 => ?_, fun x k h1 h2 h3 h4 h5 => ?_⟩, xPh_2 hn hb hc hj e3 (by omega) s2 (fun k h1 h2 => by rw [hb' k h1])⟩
  · rw [hc' k h1]
    rcases h.1 k h1 h2 with q | ⟨q1, q2, q3⟩
    · exact Or.inl q
    · exact Or.inr ⟨q1, q2, (hb' _ q1).trans q3⟩
  · rw [hb' k h1]
    rcases h.2.1 k h1 h2 with q | ⟨q1, q2, q3⟩
    · exact Or.inl q
    · exact Or.inr ⟨q1, q2, (hc' _ q1).trans q3⟩
  · rw [hb' k h3]
    by_cases e : 8 * x + k = j
    · have ex : x = b := by omega
      have ek : k = c := by omega
      subst ek
      subst ex
      refine ⟨e2, fun w => ?_⟩
      rcases h.2.1 k h3 h4 with q | ⟨q1, q2, q3⟩
      · exact e2 q
      · rw [w, e1] at q3; omega
    · rw [s2 _ (by omega) e] at h5
      exact h.2.2 x k h1 h2 h3 h4 h5
theorem xOf_3 {n : Int} {co bo sa co' bo' sa' : Int → Int} {b c d j : Int} (h : xOf n co bo sa) (hn : n ≤ 8) (hb : 0 ≤ b ∧ b < n) (hc : 0 ≤ c ∧ c < n) (hj : j = 8 * d + c) (e1 : co b = -1) (e2 : bo c = d) (e4 : d ≠ -1) (e3 : sa (8 * b + c) = 0) (c1 : co' b = c) (c3 : co' d = -1) (c2 : ∀ i, 0 ≤ i → i ≠ b → i ≠ d → co' i = co i) (b1 : bo' c = b) (b2 : ∀ i, 0 ≤ i → i ≠ c → bo' i = bo i) (s1 : sa' j = 1) (s2 : ∀ i, 0 ≤ i → i ≠ j → sa' i = sa i) : xOf n co' bo' sa' ∧ xPh n bo' sa' = xPh n bo sa + 1 := by
  obtain ⟨d1, d2, d3⟩ : 0 ≤ d ∧ d < n ∧ co d = c := by
    rcases h.2.1 c hc.1 hc.2 with q | ⟨q1, q2, q3⟩
    · omega
    · rw [e2] at q1 q2 q3; exact ⟨q1, q2, q3⟩
  have hdb : d ≠ b := fun w => by rw [w, e1] at d3; omega
  have e5 : sa j = 0 := by
    by_cases w : sa j = 0
    · exact w
    · have := h.2.2 d c d1 d2 hc.1 hc.2 (by rw [← hj]; exact w)
      omega
  refine ⟨⟨fun k h1 h2 => ?_, fun k h1 h2 => ?_, fun x k h1 h2 h3 h4 h5 => ?_⟩, xPh_2 hn ⟨d1, d2⟩ hc hj e5 (by omega) s2 (fun k h1 h2 => ?_)⟩
  · by_cases e : k = b
    · subst e; rw [c1]; exact Or.inr ⟨hc.1, hc.2, b1⟩
    · by_cases e' : k = d
      · subst e'; exact Or.inl c3
      · rw [c2 k h1 e e']
        rcases h.1 k h1 h2 with q | ⟨q1, q2, q3⟩
        · exact Or.inl q
        · have : co k ≠ c := fun w => by rw [w, e2] at q3; omega
          exact Or.inr ⟨q1, q2, (b2 _ q1 this).trans q3⟩
  · by_cases e : k = c
    · subst e; rw [b1]; exact Or.inr ⟨hb.1, hb.2, c1⟩
    · rw [b2 k h1 e]
      rcases h.2.1 k h1 h2 with q | ⟨q1, q2, q3⟩
      · exact Or.inl q
      · have w1 : bo k ≠ b := fun w => by rw [w, e1] at q3; omega
        have w2 : bo k ≠ d := fun w => by rw [w, d3] at q3; omega
        exact Or.inr ⟨q1, q2, (c2 _ q1 w1 w2).trans q3⟩
  · by_cases e : 8 * x + k = j
    · have ex : x = d := by omega
      have ek : k = c := by omega
      rw [ek, b1]
      omega
    · rw [s2 _ (by omega) e] at h5
      have q := h.2.2 x k h1 h2 h3 h4 h5
      by_cases ek : k = c
      · rw [ek, b1]
        refine ⟨by omega, fun w => h5 ?_⟩
        rw [ek, ← w]; exact e3
      · rw [b2 k h3 ek]; exact q
  · by_cases ek : k = c
    · rw [ek, b1, e2]; omega
    · rw [b2 k h1 ek]
theorem xpig : ∀ (n : Nat) (f : Nat → Nat), (∀ k, k < n + 1 → f k < n) → ∃ i j, i < j ∧ j < n + 1 ∧ f i = f j := by
  intro n
  induction n with
  | zero => intro f h; exact absurd (h 0 (by omega)) (by omega)
  | succ n ih =>
    intro f h
    by_cases hv : ∃ i, i < n + 1 ∧ f i = f (n + 1)
    · obtain ⟨i, h1, h2⟩ := hv
      exact ⟨i, n + 1, h1, by omega, h2⟩
    · have hv' : ∀ i, i < n + 1 → f i ≠ f (n + 1) := fun i hi e => hv ⟨i, hi, e⟩
      obtain ⟨i, j, h1, h2, h3⟩ := ih (fun k => if f k = n then f (n + 1) else f k) (fun k hk => by
        have a1 := h k (by omega)
        have a2 := h (n + 1) (by omega)
        have a3 := hv' k hk
        show (if f k = n then f (n + 1) else f k) < n
        split <;> omega)
      refine ⟨i, j, h1, by omega, ?_⟩
      have a1 := hv' i (by omega)
      have a2 := hv' j h2
      try dsimp only at h3
      split at h3 <;> split at h3 <;> omega
theorem xOf_free {n : Int} {co bo sa : Int → Int} {b : Int} (h : xOf n co bo sa) (hb : 0 ≤ b ∧ b < n) (e1 : co b = -1) (hs : ∀ c, 0 ≤ c → c < n → sa (8 * b + c) ≠ 0) : False := by
  have key : ∀ k : Nat, (k : Int) < n → 0 ≤ bo k ∧ bo k < n ∧ bo k ≠ b ∧ co (bo k) = k := fun k hk => by
    have q := h.2.2 b k hb.1 hb.2 (by omega) hk (hs k (by omega) hk)
    rcases h.2.1 k (by omega) hk with w | ⟨w1, w2, w3⟩
    · exact absurd w q.1
    · exact ⟨w1, w2, q.2, w3⟩
  obtain ⟨i, j, h1, h2, h3⟩ := xpig (n.toNat - 1) (fun k => if (bo k) > b then (bo k).toNat - 1 else (bo k).toNat) (fun k hk => by
    have := key k (by omega)
    show (if (bo k) > b then (bo k).toNat - 1 else (bo k).toNat) < n.toNat - 1
    split <;> omega)
  have k1 := key i (by omega)
  have k2 := key j (by omega)
  have : bo i = bo j := by
    try dsimp only at h3
    split at h3 <;> split at h3 <;> omega
  have e := k1.2.2.2
  rw [this, k2.2.2.2] at e
  omega
theorem xpre {P : Int → Prop} {f f' : Int → Int} {m : Int} (h : ∀ k, 0 ≤ k → k < m → P (f k)) (ho : ∀ i, 0 ≤ i → i ≠ m → f' i = f i) (ha : P (f' m)) : ∀ k, 0 ≤ k → k < m + 1 → P (f' k) := fun k q1 q2 => by
  by_cases e : k = m
  · subst e; exact ha
  · rw [ho k q1 e]; exact h k q1 (by omega)
def xbp (G : Int → Int) (b c d : Int) : Prop := G (8 * b + d) < G (8 * b + c) ∨ (G (8 * b + c) = G (8 * b + d) ∧ c < d)
def xcp (M : Int → Int) (c b d : Int) : Prop := M (8 * d + c) < M (8 * b + c) ∨ (M (8 * b + c) = M (8 * d + c) ∧ b < d)
theorem xbp.tot {G : Int → Int} {b c d : Int} (h : c ≠ d) (h1 : ¬ xbp G b d c) : xbp G b c d := by
  unfold xbp at h1 ⊢
  omega
theorem xcp.as {M : Int → Int} {c b d : Int} (h : xcp M c b d) : ¬ xcp M c d b := by
  unfold xcp at h ⊢
  omega
theorem xcp.tr {M : Int → Int} {c b d e : Int} (h : xcp M c b d) (h2 : xcp M c d e) : xcp M c b e := by
  unfold xcp at h h2 ⊢
  omega
def xStd (n : Int) (G M v : Int → Int) : Prop := (∀ b, 0 ≤ b → b < n → 0 ≤ v b ∧ v b < n) ∧ (∀ b d, 0 ≤ b → b < n → 0 ≤ d → d < n → v b = v d → b = d) ∧ ∀ b d, 0 ≤ b → b < n → 0 ≤ d → d < n → ¬ (xbp G b (v d) (v b) ∧ xcp M (v d) b d)
def xDa (n : Int) (G M co bo sa : Int → Int) : Prop :=
  (∀ x k, 0 ≤ x → x < n → 0 ≤ k → k < n → sa (8 * x + k) ≠ 0 → ∀ v, xStd n G M v → v x ≠ k) ∧
  (∀ x d, 0 ≤ x → x < n → 0 ≤ d → d < n → co x ≠ -1 → xbp G x d (co x) → sa (8 * x + d) ≠ 0) ∧
  (∀ x k, 0 ≤ x → x < n → 0 ≤ k → k < n → sa (8 * x + k) ≠ 0 → bo k ≠ -1 ∧ bo k ≠ x ∧ xcp M k (bo k) x)
def xDe (n : Int) (G sa : Int → Int) (b c : Int) : Prop := ∀ d, 0 ≤ d → d < n → xbp G b d c → sa (8 * b + d) ≠ 0
theorem xDa.ini {n : Int} {G M co bo sa : Int → Int} (h1 : ∀ k, 0 ≤ k → k < n → co k = -1) (h3 : ∀ k, 0 ≤ k → k < 64 → sa k = 0) (hn : n ≤ 8) : xDa n G M co bo sa :=
  ⟨fun x k q1 q2 q3 q4 q5 => absurd (h3 _ (by omega) (by omega)) q5, fun x d q1 q2 q3 q4 q5 => absurd (h1 x q1 q2) q5, fun x k q1 q2 q3 q4 q5 => absurd (h3 _ (by omega) (by omega)) q5⟩
theorem xDa.blk {n : Int} {G M sa v : Int → Int} {b c d : Int} (hv : xStd n G M v) (hb : 0 ≤ b ∧ b < n) (hd : 0 ≤ d ∧ d < n) (hbd : b ≠ d) (hR : ∀ k, 0 ≤ k → k < n → sa (8 * b + k) ≠ 0 → v b ≠ k) (hD : xDe n G sa b c) (hc : xcp M c b d) (e : v d = c) : False := by
  obtain ⟨v1, v2, v3⟩ := hv
  have r := v1 b hb.1 hb.2
  have n1 : ¬ xbp G b (v b) c := fun q => hR (v b) r.1 r.2 (hD (v b) r.1 r.2 q) rfl
  have n2 : c ≠ v b := fun q => hbd (v2 b d hb.1 hb.2 hd.1 hd.2 (by rw [e, q]))
  exact v3 b d hb.1 hb.2 hd.1 hd.2 ⟨by rw [e]; exact xbp.tot n2 n1, by rw [e]; exact hc⟩
theorem xDa.s1 {n : Int} {G M co bo sa co' bo' sa' : Int → Int} {b c : Int} (h : xDa n G M co bo sa) (hb : 0 ≤ b ∧ b < n) (hc : 0 ≤ c ∧ c < n) (e2 : bo c = -1) (hD : xDe n G sa b c) (c1 : co' b = c) (c2 : ∀ i, 0 ≤ i → i ≠ b → co' i = co i) (b2 : ∀ i, 0 ≤ i → i ≠ c → bo' i = bo i) (s1 : ∀ i, 0 ≤ i → sa' i = sa i) : xDa n G M co' bo' sa' := by
  refine ⟨fun x k q1 q2 q3 q4 q5 => ?_, fun x d q1 q2 q3 q4 q5 q6 => ?_, fun x k q1 q2 q3 q4 q5 => ?_⟩
  · rw [s1 _ (by omega)] at q5; exact h.1 x k q1 q2 q3 q4 q5
  · rw [s1 _ (by omega)]
    by_cases e : x = b
    · subst e; rw [c1] at q6; exact hD d q3 q4 q6
    · rw [c2 x q1 e] at q5 q6; exact h.2.1 x d q1 q2 q3 q4 q5 q6
  · rw [s1 _ (by omega)] at q5
    have w := h.2.2 x k q1 q2 q3 q4 q5
    have : k ≠ c := fun e => w.1 (by rw [e]; exact e2)
    rw [b2 k q3 this]; exact w
theorem xDa.s2 {n : Int} {G M co bo sa co' bo' sa' : Int → Int} {b c d j : Int} (h : xDa n G M co bo sa) (hn : n ≤ 8) (hb : 0 ≤ b ∧ b < n) (hc : 0 ≤ c ∧ c < n) (hd : 0 ≤ d ∧ d < n) (hdb : d ≠ b) (hj : j = 8 * b + c) (e2 : bo c = d) (ed : co d = c) (hcp : xcp M c d b) (s1 : sa' j ≠ 0) (s2 : ∀ i, 0 ≤ i → i ≠ j → sa' i = sa i) (hc' : ∀ i, 0 ≤ i → co' i = co i) (hb' : ∀ i, 0 ≤ i → bo' i = bo i) : xDa n G M co' bo' sa' := by
  have gr : ∀ i, 0 ≤ i → sa i ≠ 0 → sa' i ≠ 0 := fun i q1 q2 => by
    by_cases e : i = j
    · rw [e]; exact s1
    · rw [s2 i q1 e]; exact q2
  refine ⟨fun x k q1 q2 q3 q4 q5 v hv => ?_, fun x k q1 q2 q3 q4 q5 q6 => ?_, fun x k q1 q2 q3 q4 q5 => ?_⟩
  · by_cases e : 8 * x + k = j
    · have ex : x = b := by omega
      have ek : k = c := by omega
      subst ex
      subst ek
      intro w
      exact xDa.blk (b := d) (d := x) (c := k) hv hd hb hdb (fun i w1 w2 w3 => h.1 d i hd.1 hd.2 w1 w2 w3 v hv) (fun i w1 w2 w3 => h.2.1 d i hd.1 hd.2 w1 w2 (by omega) (by rw [ed]; exact w3)) hcp w
    · rw [s2 _ (by omega) e] at q5; exact h.1 x k q1 q2 q3 q4 q5 v hv
  · rw [hc' x q1] at q5 q6
    exact gr _ (by omega) (h.2.1 x k q1 q2 q3 q4 q5 q6)
  · rw [hb' k q3]
    by_cases e : 8 * x + k = j
    · have ex : x = b := by omega
      have ek : k = c := by omega
      subst ex
      subst ek
      rw [e2]
      exact ⟨by omega, hdb, hcp⟩
    · rw [s2 _ (by omega) e] at q5; exact h.2.2 x k q1 q2 q3 q4 q5
theorem xDa.s3 {n : Int} {G M co bo sa co' bo' sa' : Int → Int} {b c d j : Int} (h : xDa n G M co bo sa) (hn : n ≤ 8) (hb : 0 ≤ b ∧ b < n) (hc : 0 ≤ c ∧ c < n) (hd : 0 ≤ d ∧ d < n) (hdb : d ≠ b) (hj : j = 8 * d + c) (e2 : bo c = d) (e3 : sa (8 * b + c) = 0) (hcp : xcp M c b d) (hD : xDe n G sa b c) (c1 : co' b = c) (c3 : co' d = -1) (c2 : ∀ i, 0 ≤ i → i ≠ b → i ≠ d → co' i = co i) (b1 : bo' c = b) (b2 : ∀ i, 0 ≤ i → i ≠ c → bo' i = bo i) (s1 : sa' j ≠ 0) (s2 : ∀ i, 0 ≤ i → i ≠ j → sa' i = sa i) : xDa n G M co' bo' sa' := by
  have gr : ∀ i, 0 ≤ i → sa i ≠ 0 → sa' i ≠ 0 := fun i q1 q2 => by
    by_cases e : i = j
    · rw [e]; exact s1
    · rw [s2 i q1 e]; exact q2
  refine ⟨fun x k q1 q2 q3 q4 q5 v hv => ?_, fun x k q1 q2 q3 q4 q5 q6 => ?_, fun x k q1 q2 q3 q4 q5 => ?_⟩
  · by_cases e : 8 * x + k = j
    · have ex : x = d := by omega
      have ek : k = c := by omega
      subst ex
      subst ek
      intro w
      exact xDa.blk (b := b) (d := x) (c := k) hv hb hd (fun e => hdb e.symm) (fun i w1 w2 w3 => h.1 b i hb.1 hb.2 w1 w2 w3 v hv) hD hcp w
    · rw [s2 _ (by omega) e] at q5; exact h.1 x k q1 q2 q3 q4 q5 v hv
  · by_cases e : x = b
    · subst e; rw [c1] at q6; exact gr _ (by omega) (hD k q3 q4 q6)
    · by_cases e' : x = d
      · subst e'; exact absurd c3 q5
      · rw [c2 x q1 e e'] at q5 q6; exact gr _ (by omega) (h.2.1 x k q1 q2 q3 q4 q5 q6)
  · by_cases e : 8 * x + k = j
    · have ex : x = d := by omega
      have ek : k = c := by omega
      subst ex
      subst ek
      rw [b1]
      exact ⟨by omega, fun w => hdb w.symm, hcp⟩
    · rw [s2 _ (by omega) e] at q5
      have w := h.2.2 x k q1 q2 q3 q4 q5
      by_cases ek : k = c
      · subst ek
        rw [b1]
        rw [e2] at w
        refine ⟨by omega, fun q => q5 ?_, hcp.tr w.2.2⟩
        rw [← q]; exact e3
      · rw [b2 k q3 ek]; exact w
def xOpt (n : Int) (G M co : Int → Int) : Prop := xStd n G M co ∧ ∀ v, xStd n G M v → ∀ b, 0 ≤ b → b < n → ¬ xbp G b (v b) (co b)
theorem xDa.fin {n : Int} {G M co bo sa : Int → Int} (h : xDa n G M co bo sa) (ho : xOf n co bo sa) (hn : ∀ k, 0 ≤ k → k < n → co k ≠ -1) : xOpt n G M co := by
  have hm : ∀ k, 0 ≤ k → k < n → 0 ≤ co k ∧ co k < n ∧ bo (co k) = k := fun k q1 q2 => (ho.1 k q1 q2).resolve_left (hn k q1 q2)
  refine ⟨⟨fun b q1 q2 => ⟨(hm b q1 q2).1, (hm b q1 q2).2.1⟩, fun b d q1 q2 q3 q4 e => ?_, fun b d q1 q2 q3 q4 w => ?_⟩, fun v hv b q1 q2 w => ?_⟩
  · rw [← (hm b q1 q2).2.2, e, (hm d q3 q4).2.2]
  · have s := h.2.1 b (co d) q1 q2 (hm d q3 q4).1 (hm d q3 q4).2.1 (hn b q1 q2) w.1
    have t := (h.2.2 b (co d) q1 q2 (hm d q3 q4).1 (hm d q3 q4).2.1 s).2.2
    rw [(hm d q3 q4).2.2] at t
    exact t.as w.2
  · have r := hv.1 b q1 q2
    exact h.1 b (v b) q1 q2 r.1 r.2 (h.2.1 b (v b) q1 q2 r.1 r.2 (hn b q1 q2) w) v hv rfl
theorem xOpt.eq {n : Int} {G M co co' : Int → Int} (h : xOpt n G M co) (h' : xOpt n G M co') : ∀ b, 0 ≤ b → b < n → co b = co' b := fun b q1 q2 => by
  by_cases e : co b = co' b
  · exact e
  · exact absurd (xbp.tot e (h.2 co' h'.1 b q1 q2)) (h'.2 co h.1 b q1 q2)
theorem xStd.cg {n : Int} {G M G' M' v : Int → Int} (hn : n ≤ 8) (hG : ∀ b c, 0 ≤ b → b < n → 0 ≤ c → c < n → G (8 * b + c) = G' (8 * b + c)) (hM : ∀ b c, 0 ≤ b → b < n → 0 ≤ c → c < n → M (8 * b + c) = M' (8 * b + c)) (h : xStd n G M v) : xStd n G' M' v := by
  refine ⟨h.1, h.2.1, fun b d q1 q2 q3 q4 w => h.2.2 b d q1 q2 q3 q4 ?_⟩
  have r := h.1 b q1 q2
  have t := h.1 d q3 q4
  unfold xbp xcp at w ⊢
  rw [hG b (v d) q1 q2 t.1 t.2, hG b (v b) q1 q2 r.1 r.2, hM b (v d) q1 q2 t.1 t.2, hM d (v d) q3 q4 t.1 t.2]
  exact w
theorem xOpt.cg {n : Int} {G M G' M' co : Int → Int} (hn : n ≤ 8) (hG : ∀ b c, 0 ≤ b → b < n → 0 ≤ c → c < n → G (8 * b + c) = G' (8 * b + c)) (hM : ∀ b c, 0 ≤ b → b < n → 0 ≤ c → c < n → M (8 * b + c) = M' (8 * b + c)) (h : xOpt n G M co) : xOpt n G' M' co := by
  refine ⟨h.1.cg hn hG hM, fun v hv b q1 q2 w => ?_⟩
  have hv' : xStd n G M v := hv.cg hn (fun b c a1 a2 a3 a4 => (hG b c a1 a2 a3 a4).symm) (fun b c a1 a2 a3 a4 => (hM b c a1 a2 a3 a4).symm)
  refine h.2 v hv' b q1 q2 ?_
  have r := hv.1 b q1 q2
  have t := h.1.1 b q1 q2
  unfold xbp at w ⊢
  rw [hG b (co b) q1 q2 t.1 t.2, hG b (v b) q1 q2 r.1 r.2]
  exact w
theorem xOf.hold {n : Int} {co bo sa : Int → Int} {c d : Int} (h : xOf n co bo sa) (hc : 0 ≤ c ∧ c < n) (e : bo c = d) (hd : d ≠ -1) : 0 ≤ d ∧ d < n ∧ co d = c := by
  rcases h.2.1 c hc.1 hc.2 with q | ⟨q1, q2, q3⟩
  · omega
  · rw [e] at q1 q2 q3; exact ⟨q1, q2, q3⟩
theorem xcp.tot {M : Int → Int} {c b d : Int} (h : b ≠ d) (h1 : ¬ xcp M c b d) : xcp M c d b := by
  unfold xcp at h1 ⊢
  omega
theorem xDa_2 {n : Int} {G M co bo sa co' bo' sa' : Int → Int} {b c d j : Int} (h : xDa n G M co bo sa) (ho : xOf n co bo sa) (hn : n ≤ 8) (hb : 0 ≤ b ∧ b < n) (hc : 0 ≤ c ∧ c < n) (hj : j = 8 * b + c) (e1 : co b = -1) (e2 : bo c = d) (e4 : d ≠ -1) (hcp : ¬ xcp M c b d) (s1 : sa' j = 1) (s2 : ∀ i, 0 ≤ i → i ≠ j → sa' i = sa i) (hc' : ∀ i, 0 ≤ i → co' i = co i) (hb' : ∀ i, 0 ≤ i → bo' i = bo i) : xDa n G M co' bo' sa' := by
  obtain ⟨d1, d2, d3⟩ := ho.hold hc e2 e4
  have hdb : d ≠ b := fun w => by rw [w, e1] at d3; omega
  exact xDa.s2 h hn hb hc ⟨d1, d2⟩ hdb hj e2 d3 (xcp.tot (fun w => hdb w.symm) hcp) (by omega) s2 hc' hb'
theorem xDa_3 {n : Int} {G M co bo sa co' bo' sa' : Int → Int} {b c d j : Int} (h : xDa n G M co bo sa) (ho : xOf n co bo sa) (hn : n ≤ 8) (hb : 0 ≤ b ∧ b < n) (hc : 0 ≤ c ∧ c < n) (hj : j = 8 * d + c) (e1 : co b = -1) (e2 : bo c = d) (e4 : d ≠ -1) (e3 : sa (8 * b + c) = 0) (hcp : xcp M c b d) (hD : xDe n G sa b c) (c1 : co' b = c) (c3 : co' d = -1) (c2 : ∀ i, 0 ≤ i → i ≠ b → i ≠ d → co' i = co i) (b1 : bo' c = b) (b2 : ∀ i, 0 ≤ i → i ≠ c → bo' i = bo i) (s1 : sa' j = 1) (s2 : ∀ i, 0 ≤ i → i ≠ j → sa' i = sa i) : xDa n G M co' bo' sa' := by
  obtain ⟨d1, d2, d3⟩ := ho.hold hc e2 e4
  have hdb : d ≠ b := fun w => by rw [w, e1] at d3; omega
  exact xDa.s3 h hn hb hc ⟨d1, d2⟩ hdb hj e2 e3 hcp hD c1 c3 c2 b1 b2 (by omega) s2
def xD3 (G sa : Int → Int) (b k e : Int) : Prop := ∀ d, 0 ≤ d → d < k → sa (8 * b + d) = 0 → e ≠ -1 ∧ ¬ xbp G b d e
theorem xD3.z {G sa : Int → Int} {b e : Int} : xD3 G sa b 0 e := fun d q1 q2 => by omega
theorem xD3.sent {G sa : Int → Int} {b k e : Int} (h : xD3 G sa b k e) (hs : sa (8 * b + k) ≠ 0) : xD3 G sa b (k + 1) e := fun d q1 q2 q3 => by
  by_cases q : d = k
  · rw [q] at q3; exact absurd q3 hs
  · exact h d q1 (by omega) q3
theorem xD3.first {G sa : Int → Int} {b k e : Int} (h : xD3 G sa b k e) (he : e = -1) (hk : 0 ≤ k) : xD3 G sa b (k + 1) k := fun d q1 q2 q3 => by
  by_cases q : d = k
  · refine ⟨by omega, ?_⟩
    unfold xbp
    rw [q]
    omega
  · exact absurd he (h d q1 (by omega) q3).1
theorem xD3.more {G sa : Int → Int} {b k e a z : Int} (h : xD3 G sa b k e) (hk : 0 ≤ k) (e1 : G (8 * b + k) = a) (e2 : G (8 * b + e) = z) (hg : z < a) : xD3 G sa b (k + 1) k := fun d q1 q2 q3 => by
  by_cases q : d = k
  · refine ⟨by omega, ?_⟩
    unfold xbp
    rw [q]
    omega
  · have w := h d q1 (by omega) q3
    refine ⟨by omega, ?_⟩
    have w2 := w.2
    unfold xbp at w2 ⊢
    omega
theorem xD3.keep {G sa : Int → Int} {b k e a z : Int} (h : xD3 G sa b k e) (he : e ≠ -1) (hk : e < k) (e1 : G (8 * b + k) = a) (e2 : G (8 * b + e) = z) (hg : a ≤ z) : xD3 G sa b (k + 1) e := fun d q1 q2 q3 => by
  by_cases q : d = k
  · refine ⟨he, ?_⟩
    unfold xbp
    rw [q]
    omega
  · exact h d q1 (by omega) q3
theorem xD3.de {n : Int} {G sa : Int → Int} {b k e : Int} (h : xD3 G sa b k e) (hk : n ≤ k) : xDe n G sa b e := fun d q1 q2 w q => (h d q1 (by omega) q).2 w
theorem xsum_add {t : Int → Int} {z k v : Int} (h : z = xsum t k.toNat) (hk : 0 ≤ k) (hv : t k = v) : z + v = xsum t (k + 1).toNat := by rw [xsum_s hk, h, hv]
def xPi (S : xT) (g : xG) (a : Nat) : Prop := ∃ (p q c d : Nat) (n : Int), S a = some (12, 0) ∧ g a 10 = .ref p ∧ g a 11 = .ref q ∧ p ≠ q ∧ S p = some (7, 0) ∧ S q = some (7, 0) ∧ g p 3 = .ref c ∧ g q 3 = .ref d ∧ c ≠ d ∧ S c = some (12300, 8) ∧ S d = some (12300, 8) ∧ g p 0 = .int (iI n) ∧ 0 ≤ n ∧ n ≤ 8 ∧ xCo n (xv g c)
def xpq : List (Nat × Nat) := [(12, 10), (12, 11), (7, 3), (7, 0), (12300, 0)]
theorem xPi_m {S S1 : xT} {g g1 : xG} {a : Nat} {L : List (Nat × Nat)} (h : xPi S g a) (hm : xM L S g g1) (hle : xLe S S1) (hd : ∀ x ∈ xpq, x ∉ L) : xPi S1 g1 a := by
  obtain ⟨p, q, c, d, n, h1, h2, h3, h4, h5, h6, h7, h8, h9, h10, h11, h12, h13, h14, h15⟩ := h
  refine ⟨p, q, c, d, n, hle _ _ h1, ?_, ?_, h4, hle _ _ h5, hle _ _ h6, ?_, ?_, h9, hle _ _ h10, hle _ _ h11, ?_, h13, h14, ?_⟩
  · rw [hm _ _ _ _ h1 (hd _ (by decide))]; exact h2
  · rw [hm _ _ _ _ h1 (hd _ (by decide))]; exact h3
  · rw [hm _ _ _ _ h5 (hd _ (by decide))]; exact h7
  · rw [hm _ _ _ _ h6 (hd _ (by decide))]; exact h8
  · rw [hm _ _ _ _ h5 (hd _ (by decide))]; exact h12
  · rw [xv_m hm h10 (by decide) (hd _ (by decide))]; exact h15
set_option maxHeartbeats 4000000 in
set_option maxRecDepth 100000 in
theorem c2_boyWithout (l : Launch) (D : va_G) (kA : Nat → ClassId) (b0 : Nat) (t0 : Nat → Nat) (S : xT) (g : xG) (a0 : Nat) (n0 : Int) (w3 : Nat) (hs_a0 : S a0 = some (7, 0)) (hn0 : 1 ≤ n0 ∧ n0 ≤ 8) (en0 : g a0 0 = .int (iI n0)) (ew3 : g a0 3 = .ref w3) (hs_w3 : S w3 = some (12300, 8)) : xMt l yX6_boyWithout cX6_boyWithout 2 (some .int) 0 0 0 0 D kA b0 t0 [] [.ref a0] S g (fun (r : Option Value) (S1 : xT) (g1 : xG) => S = S1 ∧ g = g1 ∧ ∃ z : Int, r = some (.int (iI z)) ∧ (-1) ≤ z ∧ z ≤ 7 ∧ (z = -1 → ∀ k, 0 ≤ k → k < n0 → xv g w3 k ≠ -1) ∧ (z ≠ -1 → z < n0 ∧ xv g w3 z = -1)) := by
  refine xEnterI (by decide) (by simp [lg_sl, Value.category]) [(0, .ref a0)] rfl ?_
  intro K E hK hret _ _ _
  refine X_iconst hK dX6_boyWithout_0 ?_
  refine X_istoren hK (i := 1) [(1, .int (iI 0)), (0, .ref a0)] dX6_boyWithout_1 rfl (by decide) rfl ?_
  have P25 : ∀ (nP25 : Nat) (z21 : Int) (_ : 0 ≤ z21) (_ : z21 ≤ 8) (_ : ∀ k, 0 ≤ k → k < z21 → xv g w3 k ≠ -1) (_ : 24 - z21 < (nP25 : Int)), X K E 2 [(1, .int (iI z21)), (0, .ref a0)] [] S g 0 0 := by
    intro nP25
    induction nP25 with
    | zero => intro z21 lz21 uz21 v26 mP25; exact False.elim (by omega)
    | succ nP25 ihP25 =>
      intro z21 lz21 uz21 v26 mP25
      refine X_iloadn hK (i := 1) 0 dX6_boyWithout_2 rfl rfl ?_
      refine X_aloadn hK (i := 0) 1 dX6_boyWithout_3 rfl rfl ?_
      refine X_getK hK fl_X6_9_7 hs_a0 en0 dX6_boyWithout_4 ?_
      refine X_icmp_ge hK 28 (by omega) (by omega) dX6_boyWithout_7 (by decide) (fun c27 => ?_) (fun c27 => ?_)
      · refine X_iconst hK dX6_boyWithout_28 ?_
        exact hret _ _ _ _ _ _ _ dX6_boyWithout_29 ⟨rfl, rfl, (-1), rfl, (by omega), (by omega), (fun _ => fun k q1 q2 => v26 k q1 (by omega)), (fun h => absurd rfl h)⟩ (Nat.le_refl _) (Nat.le_refl _)
      · refine X_aloadn hK (i := 0) 1 dX6_boyWithout_10 rfl rfl ?_
        refine X_getK hK fl_X6_22_7 hs_a0 ew3 dX6_boyWithout_11 ?_
        refine X_iloadn hK (i := 1) 0 dX6_boyWithout_14 rfl rfl ?_
        refine X_iald hK hs_w3 (by decide) sl_12300 (by omega) (by omega) dX6_boyWithout_15 (fun z28 ez28 lz28 uz28 => ?_)
        have hvz28 := xv_e (j := z21) ez28 (by omega)
        refine X_iconst hK dX6_boyWithout_16 ?_
        refine X_icmp_ne hK 22 (by omega) (by omega) dX6_boyWithout_17 (by decide) (fun c29 => ?_) (fun c29 => ?_)
        · refine X_iinc hK (i := 1) (z := z21) (n := 1) 0 [(1, .int (iI (z21 + 1))), (0, .ref a0)] dX6_boyWithout_22 rfl (by decide) rfl ?_
          refine X_goto hK 2 dX6_boyWithout_25 (by decide) ?_
          exact ihP25  (z21 + 1) (by omega) (by omega) (xpre (P := fun x => x ≠ -1) v26 (fun _ _ _ => rfl) (by omega)) (by omega)
        · refine X_iloadn hK (i := 1) 0 dX6_boyWithout_20 rfl rfl ?_
          exact hret _ _ _ _ _ _ _ dX6_boyWithout_21 ⟨rfl, rfl, z21, rfl, (by omega), (by omega), (fun h => by omega), (fun _ => ⟨by omega, by omega⟩)⟩ (Nat.le_refl _) (Nat.le_refl _)
  exact P25 ((24 - 0 : Int).toNat + 1) 0 (by omega) (by omega) (fun k q1 q2 => by omega) (by omega)

set_option maxHeartbeats 4000000 in
set_option maxRecDepth 100000 in
theorem c2_dearestOf (l : Launch) (D : va_G) (kA : Nat → ClassId) (b0 : Nat) (t0 : Nat → Nat) (S : xT) (g : xG) (a0 : Nat) (x1 : Int) (n0 : Int) (w3 : Nat) (w4 : Nat) (w7 : Nat) (w1 : Nat) (hs_a0 : S a0 = some (7, 0)) (hx1 : 0 ≤ x1 ∧ x1 ≤ 7) (hn0 : 1 ≤ n0 ∧ n0 ≤ 8) (en0 : g a0 0 = .int (iI n0)) (ew3 : g a0 3 = .ref w3) (hs_w3 : S w3 = some (12300, 8)) (ew4 : g a0 4 = .ref w4) (hs_w4 : S w4 = some (12400, 8)) (ew7 : g a0 7 = .ref w7) (hs_w7 : S w7 = some (12701, 64)) (ew1 : g a0 1 = .ref w1) (hs_w1 : S w1 = some (12100, 64)) (hp0 : xOf n0 (xv g w3) (xv g w4) (xv g w7)) (hp1 : x1 < n0) (hp2 : xv g w3 x1 = -1) : xMt l yX6_dearestOf cX6_dearestOf 5 (some .int) 0 0 0 0 D kA b0 t0 [] [.ref a0, .int (iI x1)] S g (fun (r : Option Value) (S1 : xT) (g1 : xG) => S = S1 ∧ g = g1 ∧ ∃ z : Int, r = some (.int (iI z)) ∧ 0 ≤ z ∧ z ≤ 7 ∧ (z < n0 ∧ xv g w7 (8 * x1 + z) = 0) ∧ (xDe n0 (xv g w1) (xv g w7) x1 z)) := by
  refine xEnterI (by decide) (by simp [lg_sl, Value.category]) [(0, .ref a0), (1, .int (iI x1))] rfl ?_
  intro K E hK hret _ _ _
  refine X_iconst hK dX6_dearestOf_0 ?_
  refine X_istoren hK (i := 2) [(2, .int (iI (-1))), (0, .ref a0), (1, .int (iI x1))] dX6_dearestOf_1 rfl (by decide) rfl ?_
  refine X_iconst hK dX6_dearestOf_2 ?_
  refine X_istoren hK (i := 3) [(3, .int (iI 0)), (2, .int (iI (-1))), (0, .ref a0), (1, .int (iI x1))] dX6_dearestOf_3 rfl (by decide) rfl ?_
  have P58 : ∀ (nP58 : Nat) (z49 : Int) (_ : 0 ≤ z49) (_ : z49 ≤ 8) (z50 : Int) (_ : (-1) ≤ z50) (_ : z50 ≤ 7) (_ : z50 = -1 → ∀ c, 0 ≤ c → c < z49 → xv g w7 (8 * x1 + c) ≠ 0) (_ : z50 ≠ -1 → z50 < z49 ∧ xv g w7 (8 * x1 + z50) = 0) (_ : z49 ≤ n0) (_ : xD3 (xv g w1) (xv g w7) x1 z49 z50) (_ : 24 - z49 < (nP58 : Int)), X K E 4 [(3, .int (iI z49)), (2, .int (iI z50)), (0, .ref a0), (1, .int (iI x1))] [] S g 0 0 := by
    intro nP58
    induction nP58 with
    | zero => intro z49 lz49 uz49 z50 lz50 uz50 v59 v60 v61 v62 mP58; exact False.elim (by omega)
    | succ nP58 ihP58 =>
      intro z49 lz49 uz49 z50 lz50 uz50 v59 v60 v61 v62 mP58
      refine X_iloadn hK (i := 3) 0 dX6_dearestOf_4 rfl rfl ?_
      refine X_aloadn hK (i := 0) 2 dX6_dearestOf_5 rfl rfl ?_
      refine X_getK hK fl_X6_9_7 hs_a0 en0 dX6_dearestOf_6 ?_
      refine X_icmp_ge hK 64 (by omega) (by omega) dX6_dearestOf_9 (by decide) (fun c63 => ?_) (fun c63 => ?_)
      · refine X_iloadn hK (i := 2) 1 dX6_dearestOf_64 rfl rfl ?_
        have hfz50 : z50 ≠ -1 := fun e9 => xOf_free hp0 (by omega) (by omega) (fun c q1 q2 => v59 e9 c q1 (by omega))
        exact hret _ _ _ _ _ _ _ dX6_dearestOf_65 ⟨rfl, rfl, z50, rfl, (by omega), (by omega), (v60 (by omega) |>.imp (fun h => by omega) id), (xD3.de v62 (by omega))⟩ (Nat.le_refl _) (Nat.le_refl _)
      · refine X_iloadn hK (i := 1) 3 dX6_dearestOf_12 rfl rfl ?_
        refine X_bipush hK dX6_dearestOf_13 (by decide) ?_
        refine X_imul hK dX6_dearestOf_15 ?_
        refine X_iloadn hK (i := 3) 0 dX6_dearestOf_16 rfl rfl ?_
        refine X_iadd hK dX6_dearestOf_17 ?_
        refine X_istore hK (i := 4) [(4, .int (iI ((x1 * 8) + z49))), (3, .int (iI z49)), (2, .int (iI z50)), (0, .ref a0), (1, .int (iI x1))] dX6_dearestOf_18 (by decide) rfl ?_
        refine X_aloadn hK (i := 0) 3 dX6_dearestOf_20 rfl rfl ?_
        refine X_getK hK fl_X6_34_7 hs_a0 ew7 dX6_dearestOf_21 ?_
        refine X_iload hK (i := 4) 0 dX6_dearestOf_24 rfl ?_
        refine X_zald hK hs_w7 (by decide) sl_12701 (by omega) (by omega) dX6_dearestOf_26 (fun z64 ez64 lz64 uz64 => ?_)
        have hvz64 := xv_e (j := ((x1 * 8) + z49)) ez64 (by omega)
        have hqz64 : xv g w7 (8 * x1 + z49) = z64 := (by rw [show 8 * x1 + z49 = (x1 * 8) + z49 by omega]; exact hvz64)
        refine X_if_ne hK 58 (by omega) dX6_dearestOf_27 (by decide) (fun c65 => ?_) (fun c65 => ?_)
        · refine X_iinc hK (i := 3) (z := z49) (n := 1) 1 [(3, .int (iI (z49 + 1))), (4, .int (iI ((x1 * 8) + z49))), (2, .int (iI z50)), (0, .ref a0), (1, .int (iI x1))] dX6_dearestOf_58 rfl (by decide) rfl ?_
          refine X_goto hK 4 dX6_dearestOf_61 (by decide) ?_
          refine X_lv [(3, .int (iI (z49 + 1))), (2, .int (iI z50)), (0, .ref a0), (1, .int (iI x1))] [0, 2, 3, 4] rfl ?_
          exact ihP58  (z49 + 1) (by omega) (by omega) z50 (by omega) (by omega) (fun hm c q1 q2 => by rcases (show c < z49 ∨ c = z49 by omega) with e9 | e9 <;> first | omega | exact v59 (by omega) c q1 e9 | (rw [e9]; omega)) (fun hm => by first | omega | exact ⟨by omega, by omega⟩ | (have h9 := v60 (by omega); exact ⟨by omega, h9.2⟩)) (by omega) (by first | exact xD3.sent v62 (by omega) | exact xD3.first v62 (by omega) (by omega)) (by omega)
        · refine X_iloadn hK (i := 2) 2 dX6_dearestOf_30 rfl rfl ?_
          refine X_iconst hK dX6_dearestOf_31 ?_
          refine X_icmp_eq hK 56 (by omega) (by omega) dX6_dearestOf_32 (by decide) (fun c66 => ?_) (fun c66 => ?_)
          · refine X_iloadn hK (i := 3) 1 dX6_dearestOf_56 rfl rfl ?_
            refine X_istoren hK (i := 2) [(2, .int (iI z49)), (4, .int (iI ((x1 * 8) + z49))), (3, .int (iI z49)), (0, .ref a0), (1, .int (iI x1))] dX6_dearestOf_57 rfl (by decide) rfl ?_
            refine X_iinc hK (i := 3) (z := z49) (n := 1) 2 [(3, .int (iI (z49 + 1))), (2, .int (iI z49)), (4, .int (iI ((x1 * 8) + z49))), (0, .ref a0), (1, .int (iI x1))] dX6_dearestOf_58 rfl (by decide) rfl ?_
            refine X_goto hK 4 dX6_dearestOf_61 (by decide) ?_
            refine X_lv [(3, .int (iI (z49 + 1))), (2, .int (iI z49)), (0, .ref a0), (1, .int (iI x1))] [0, 1, 3, 4] rfl ?_
            exact ihP58  (z49 + 1) (by omega) (by omega) z49 (by omega) (by omega) (fun hm c q1 q2 => by rcases (show c < z49 ∨ c = z49 by omega) with e9 | e9 <;> first | omega | exact v59 (by omega) c q1 e9 | (rw [e9]; omega)) (fun hm => by first | omega | exact ⟨by omega, by omega⟩ | (have h9 := v60 (by omega); exact ⟨by omega, h9.2⟩)) (by omega) (by first | exact xD3.sent v62 (by omega) | exact xD3.first v62 (by omega) (by omega)) (by omega)
          · refine X_aloadn hK (i := 0) 3 dX6_dearestOf_35 rfl rfl ?_
            refine X_getK hK fl_X6_15_7 hs_a0 ew1 dX6_dearestOf_36 ?_
            refine X_iload hK (i := 4) 0 dX6_dearestOf_39 rfl ?_
            refine X_iald hK hs_w1 (by decide) sl_12100 (by omega) (by omega) dX6_dearestOf_41 (fun z67 ez67 lz67 uz67 => ?_)
            have hq68 : xv g w1 (8 * x1 + z49) = z67 := (by rw [show 8 * x1 + z49 = ((x1 * 8) + z49) by omega]; exact xv_e (j := ((x1 * 8) + z49)) ez67 (by omega))
            refine X_aloadn hK (i := 0) 3 dX6_dearestOf_42 rfl rfl ?_
            refine X_getK hK fl_X6_15_7 hs_a0 ew1 dX6_dearestOf_43 ?_
            refine X_iloadn hK (i := 1) 4 dX6_dearestOf_46 rfl rfl ?_
            refine X_bipush hK dX6_dearestOf_47 (by decide) ?_
            refine X_imul hK dX6_dearestOf_49 ?_
            refine X_iloadn hK (i := 2) 2 dX6_dearestOf_50 rfl rfl ?_
            refine X_iadd hK dX6_dearestOf_51 ?_
            refine X_iald hK hs_w1 (by decide) sl_12100 (by omega) (by omega) dX6_dearestOf_52 (fun z69 ez69 lz69 uz69 => ?_)
            have hq70 : xv g w1 (8 * x1 + z50) = z69 := (by rw [show 8 * x1 + z50 = ((x1 * 8) + z50) by omega]; exact xv_e (j := ((x1 * 8) + z50)) ez69 (by omega))
            refine X_icmp_le hK 58 (by omega) (by omega) dX6_dearestOf_53 (by decide) (fun c71 => ?_) (fun c71 => ?_)
            · refine X_iinc hK (i := 3) (z := z49) (n := 1) 1 [(3, .int (iI (z49 + 1))), (4, .int (iI ((x1 * 8) + z49))), (2, .int (iI z50)), (0, .ref a0), (1, .int (iI x1))] dX6_dearestOf_58 rfl (by decide) rfl ?_
              refine X_goto hK 4 dX6_dearestOf_61 (by decide) ?_
              refine X_lv [(3, .int (iI (z49 + 1))), (2, .int (iI z50)), (0, .ref a0), (1, .int (iI x1))] [0, 2, 3, 4] rfl ?_
              exact ihP58  (z49 + 1) (by omega) (by omega) z50 (by omega) (by omega) (fun hm c q1 q2 => by rcases (show c < z49 ∨ c = z49 by omega) with e9 | e9 <;> first | omega | exact v59 (by omega) c q1 e9 | (rw [e9]; omega)) (fun hm => by first | omega | exact ⟨by omega, by omega⟩ | (have h9 := v60 (by omega); exact ⟨by omega, h9.2⟩)) (by omega) (by first | exact xD3.sent v62 (by omega) | exact xD3.first v62 (by omega) (by omega) | exact xD3.more v62 (by omega) hq68 hq70 (by omega) | exact xD3.keep v62 (by omega) (by omega) hq68 hq70 (by omega)) (by omega)
            · refine X_iloadn hK (i := 3) 1 dX6_dearestOf_56 rfl rfl ?_
              refine X_istoren hK (i := 2) [(2, .int (iI z49)), (4, .int (iI ((x1 * 8) + z49))), (3, .int (iI z49)), (0, .ref a0), (1, .int (iI x1))] dX6_dearestOf_57 rfl (by decide) rfl ?_
              refine X_iinc hK (i := 3) (z := z49) (n := 1) 2 [(3, .int (iI (z49 + 1))), (2, .int (iI z49)), (4, .int (iI ((x1 * 8) + z49))), (0, .ref a0), (1, .int (iI x1))] dX6_dearestOf_58 rfl (by decide) rfl ?_
              refine X_goto hK 4 dX6_dearestOf_61 (by decide) ?_
              refine X_lv [(3, .int (iI (z49 + 1))), (2, .int (iI z49)), (0, .ref a0), (1, .int (iI x1))] [0, 1, 3, 4] rfl ?_
              exact ihP58  (z49 + 1) (by omega) (by omega) z49 (by omega) (by omega) (fun hm c q1 q2 => by rcases (show c < z49 ∨ c = z49 by omega) with e9 | e9 <;> first | omega | exact v59 (by omega) c q1 e9 | (rw [e9]; omega)) (fun hm => by first | omega | exact ⟨by omega, by omega⟩ | (have h9 := v60 (by omega); exact ⟨by omega, h9.2⟩)) (by omega) (by first | exact xD3.sent v62 (by omega) | exact xD3.first v62 (by omega) (by omega) | exact xD3.more v62 (by omega) hq68 hq70 (by omega) | exact xD3.keep v62 (by omega) (by omega) hq68 hq70 (by omega)) (by omega)
  exact P58 ((24 - 0 : Int).toNat + 1) 0 (by omega) (by omega) (-1) (by omega) (by omega) (fun _ c q1 q2 => by omega) (fun h => by omega) (by omega) xD3.z (by omega)

set_option maxHeartbeats 4000000 in
set_option maxRecDepth 100000 in
theorem c2_isMightier (l : Launch) (D : va_G) (kA : Nat → ClassId) (b0 : Nat) (t0 : Nat → Nat) (S : xT) (g : xG) (a0 : Nat) (x1 : Int) (x2 : Int) (x3 : Int) (w2 : Nat) (hs_a0 : S a0 = some (7, 0)) (hx1 : 0 ≤ x1 ∧ x1 ≤ 7) (hx2 : 0 ≤ x2 ∧ x2 ≤ 7) (hx3 : 0 ≤ x3 ∧ x3 ≤ 7) (ew2 : g a0 2 = .ref w2) (hs_w2 : S w2 = some (12200, 64)) : xMt l yX6_isMightier cX6_isMightier 6 (some .boolean) 0 0 0 0 D kA b0 t0 [] [.ref a0, .int (iI x1), .int (iI x2), .int (iI x3)] S g (fun (r : Option Value) (S1 : xT) (g1 : xG) => S = S1 ∧ g = g1 ∧ ∃ z : Int, r = some (.int (iI z)) ∧ 0 ≤ z ∧ z ≤ 1 ∧ ((z = 1 ↔ xcp (xv g w2) x3 x1 x2))) := by
  refine xEnterZ (by decide) (by simp [lg_sl, Value.category]) [(0, .ref a0), (1, .int (iI x1)), (2, .int (iI x2)), (3, .int (iI x3))] rfl ?_
  intro K E hK hret _ _ _
  refine X_aloadn hK (i := 0) 0 dX6_isMightier_0 rfl rfl ?_
  refine X_getK hK fl_X6_19_7 hs_a0 ew2 dX6_isMightier_1 ?_
  refine X_iloadn hK (i := 1) 1 dX6_isMightier_4 rfl rfl ?_
  refine X_bipush hK dX6_isMightier_5 (by decide) ?_
  refine X_imul hK dX6_isMightier_7 ?_
  refine X_iloadn hK (i := 3) 3 dX6_isMightier_8 rfl rfl ?_
  refine X_iadd hK dX6_isMightier_9 ?_
  refine X_iald hK hs_w2 (by decide) sl_12200 (by omega) (by omega) dX6_isMightier_10 (fun z1 ez1 lz1 uz1 => ?_)
  have hq2 : xv g w2 (8 * x1 + x3) = z1 := (by rw [show 8 * x1 + x3 = ((x1 * 8) + x3) by omega]; exact xv_e (j := ((x1 * 8) + x3)) ez1 (by omega))
  refine X_istore hK (i := 4) [(4, .int (iI z1)), (0, .ref a0), (1, .int (iI x1)), (2, .int (iI x2)), (3, .int (iI x3))] dX6_isMightier_11 (by decide) rfl ?_
  refine X_aloadn hK (i := 0) 1 dX6_isMightier_13 rfl rfl ?_
  refine X_getK hK fl_X6_19_7 hs_a0 ew2 dX6_isMightier_14 ?_
  refine X_iloadn hK (i := 2) 3 dX6_isMightier_17 rfl rfl ?_
  refine X_bipush hK dX6_isMightier_18 (by decide) ?_
  refine X_imul hK dX6_isMightier_20 ?_
  refine X_iloadn hK (i := 3) 4 dX6_isMightier_21 rfl rfl ?_
  refine X_iadd hK dX6_isMightier_22 ?_
  refine X_iald hK hs_w2 (by decide) sl_12200 (by omega) (by omega) dX6_isMightier_23 (fun z3 ez3 lz3 uz3 => ?_)
  have hq4 : xv g w2 (8 * x2 + x3) = z3 := (by rw [show 8 * x2 + x3 = ((x2 * 8) + x3) by omega]; exact xv_e (j := ((x2 * 8) + x3)) ez3 (by omega))
  refine X_istore hK (i := 5) [(5, .int (iI z3)), (4, .int (iI z1)), (0, .ref a0), (1, .int (iI x1)), (2, .int (iI x2)), (3, .int (iI x3))] dX6_isMightier_24 (by decide) rfl ?_
  refine X_iload hK (i := 4) 1 dX6_isMightier_26 rfl ?_
  refine X_iload hK (i := 5) 0 dX6_isMightier_28 rfl ?_
  refine X_icmp_gt hK 45 (by omega) (by omega) dX6_isMightier_30 (by decide) (fun c5 => ?_) (fun c5 => ?_)
  · refine X_iconst hK dX6_isMightier_45 ?_
    refine X_goto hK 50 dX6_isMightier_46 (by decide) ?_
    exact hret _ _ _ _ _ _ _ dX6_isMightier_50 (by omega) (by omega) ⟨rfl, rfl, 1, rfl, (by omega), (by omega), ⟨fun h9 => by unfold xcp; omega, fun h9 => by unfold xcp at h9; omega⟩⟩ (Nat.le_refl _) (Nat.le_refl _)
  · refine X_iload hK (i := 4) 1 dX6_isMightier_33 rfl ?_
    refine X_iload hK (i := 5) 0 dX6_isMightier_35 rfl ?_
    refine X_icmp_ne hK 49 (by omega) (by omega) dX6_isMightier_37 (by decide) (fun c6 => ?_) (fun c6 => ?_)
    · refine X_iconst hK dX6_isMightier_49 ?_
      exact hret _ _ _ _ _ _ _ dX6_isMightier_50 (by omega) (by omega) ⟨rfl, rfl, 0, rfl, (by omega), (by omega), ⟨fun h9 => by unfold xcp; omega, fun h9 => by unfold xcp at h9; omega⟩⟩ (Nat.le_refl _) (Nat.le_refl _)
    · refine X_iloadn hK (i := 1) 3 dX6_isMightier_40 rfl rfl ?_
      refine X_iloadn hK (i := 2) 4 dX6_isMightier_41 rfl rfl ?_
      refine X_icmp_ge hK 49 (by omega) (by omega) dX6_isMightier_42 (by decide) (fun c7 => ?_) (fun c7 => ?_)
      · refine X_iconst hK dX6_isMightier_49 ?_
        exact hret _ _ _ _ _ _ _ dX6_isMightier_50 (by omega) (by omega) ⟨rfl, rfl, 0, rfl, (by omega), (by omega), ⟨fun h9 => by unfold xcp; omega, fun h9 => by unfold xcp at h9; omega⟩⟩ (Nat.le_refl _) (Nat.le_refl _)
      · refine X_iconst hK dX6_isMightier_45 ?_
        refine X_goto hK 50 dX6_isMightier_46 (by decide) ?_
        exact hret _ _ _ _ _ _ _ dX6_isMightier_50 (by omega) (by omega) ⟨rfl, rfl, 1, rfl, (by omega), (by omega), ⟨fun h9 => by unfold xcp; omega, fun h9 => by unfold xcp at h9; omega⟩⟩ (Nat.le_refl _) (Nat.le_refl _)

set_option maxHeartbeats 4000000 in
set_option maxRecDepth 100000 in
theorem c2_ask (l : Launch) (D : va_G) (kA : Nat → ClassId) (b0 : Nat) (t0 : Nat → Nat) (S : xT) (g : xG) (a0 : Nat) (x1 : Int) (x2 : Int) (n0 : Int) (w3 : Nat) (w4 : Nat) (w7 : Nat) (w1 : Nat) (w2 : Nat) (hs_a0 : S a0 = some (7, 0)) (hx1 : 0 ≤ x1 ∧ x1 ≤ 7) (hx2 : 0 ≤ x2 ∧ x2 ≤ 7) (hn0 : 1 ≤ n0 ∧ n0 ≤ 8) (en0 : g a0 0 = .int (iI n0)) (ew3 : g a0 3 = .ref w3) (hs_w3 : S w3 = some (12300, 8)) (ew4 : g a0 4 = .ref w4) (hs_w4 : S w4 = some (12400, 8)) (ew7 : g a0 7 = .ref w7) (hs_w7 : S w7 = some (12701, 64)) (ew1 : g a0 1 = .ref w1) (hs_w1 : S w1 = some (12100, 64)) (ew2 : g a0 2 = .ref w2) (hs_w2 : S w2 = some (12200, 64)) (hp0 : xOf n0 (xv g w3) (xv g w4) (xv g w7)) (hp1 : x1 < n0 ∧ x2 < n0) (hp2 : xv g w3 x1 = -1) (hp3 : xv g w7 (8 * x1 + x2) = 0) (hp4 : xDa n0 (xv g w1) (xv g w2) (xv g w3) (xv g w4) (xv g w7)) (hp5 : xDe n0 (xv g w1) (xv g w7) x1 x2) : xMt l yX6_ask cX6_ask 4 none 1 0 0 25 D kA b0 t0 [(12400, 0), (12300, 0), (12701, 0)] [.ref a0, .int (iI x1), .int (iI x2)] S g (fun (r : Option Value) (S1 : xT) (g1 : xG) => S = S1 ∧ r = none ∧ (xOf n0 (xv g1 w3) (xv g1 w4) (xv g1 w7) ∧ xPh n0 (xv g1 w4) (xv g1 w7) = xPh n0 (xv g w4) (xv g w7) + 1) ∧ (xFr 12300 S g g1 w3) ∧ (xDa n0 (xv g1 w1) (xv g1 w2) (xv g1 w3) (xv g1 w4) (xv g1 w7))) := by
  refine xEnterV (by decide) (by simp [lg_sl, Value.category]) [(0, .ref a0), (1, .int (iI x1)), (2, .int (iI x2))] rfl ?_
  intro K E hK hret _ _ _
  refine X_aloadn hK (i := 0) 0 dX6_ask_0 rfl rfl ?_
  refine X_getK hK fl_X6_25_7 hs_a0 ew4 dX6_ask_1 ?_
  refine X_iloadn hK (i := 2) 2 dX6_ask_4 rfl rfl ?_
  refine X_iald hK hs_w4 (by decide) sl_12400 (by omega) (by omega) dX6_ask_5 (fun z1 ez1 lz1 uz1 => ?_)
  have hvz1 := xv_e (j := x2) ez1 (by omega)
  have hdz1 : z1 ≠ -1 → z1 ≠ x1 ∧ z1 < n0 := fun e9 => by have h9 := hp0.2.1 x2 (by omega) (by omega); rw [hvz1] at h9; refine ⟨fun e8 => ?_, by omega⟩; rcases h9 with h9 | ⟨_, _, h9⟩ <;> first | omega | (rw [e8] at h9; omega)
  refine X_istoren hK (i := 3) [(3, .int (iI z1)), (0, .ref a0), (1, .int (iI x1)), (2, .int (iI x2))] dX6_ask_6 rfl (by decide) rfl ?_
  refine X_iloadn hK (i := 3) 0 dX6_ask_7 rfl rfl ?_
  refine X_iconst hK dX6_ask_8 ?_
  refine X_icmp_eq hK 22 (by omega) (by omega) dX6_ask_9 (by decide) (fun c2 => ?_) (fun c2 => ?_)
  · refine X_aloadn hK (i := 0) 1 dX6_ask_22 rfl rfl ?_
    refine X_getK hK fl_X6_25_7 hs_a0 ew4 dX6_ask_23 ?_
    refine X_iloadn hK (i := 2) 3 dX6_ask_26 rfl rfl ?_
    refine X_iloadn hK (i := 1) 2 dX6_ask_27 rfl rfl ?_
    refine X_iast hK hs_w4 (by decide) (by decide) sl_12400 (by omega) (by omega) (by omega) (by omega) dX6_ask_28 (fun g3 hg3 => ?_)
    refine X_aloadn hK (i := 0) 1 dX6_ask_29 rfl rfl ?_
    refine X_getK hK fl_X6_22_7 hs_a0 ((xs_a hg3 (xne hs_a0 hs_w4 (by decide))).trans ew3) dX6_ask_30 ?_
    refine X_iloadn hK (i := 1) 2 dX6_ask_33 rfl rfl ?_
    refine X_iloadn hK (i := 2) 3 dX6_ask_34 rfl rfl ?_
    refine X_iast hK hs_w3 (by decide) (by decide) sl_12300 (by omega) (by omega) (by omega) (by omega) dX6_ask_35 (fun g4 hg4 => ?_)
    refine X_iloadn hK (i := 3) 0 dX6_ask_36 rfl rfl ?_
    refine X_iconst hK dX6_ask_37 ?_
    refine X_icmp_eq hK 75 (by omega) (by omega) dX6_ask_38 (by decide) (fun c5 => ?_) (fun c5 => False.elim (by omega))
    exact hret _ _ _ _ _ _ dX6_ask_75 ⟨rfl, rfl, (xOf_1 (b := x1) (c := x2) hp0 (by omega) (by omega) (by omega) (by omega) (show xv g4 w3 x1 = x2 from by rw [xv_s hg4 (by omega)]) (fun i9 hi9 h09 => (show xv g4 w3 i9 = xv g w3 i9 from by rw [(xv_k (i := i9) hg4 (by omega) (by omega) (by omega)), (xv_a hg3 (xne hs_w3 hs_w4 (by decide)))])) (show xv g4 w4 x2 = x1 from by rw [(xv_a hg4 (xne hs_w4 hs_w3 (by decide))), xv_s hg3 (by omega)]) (fun i9 hi9 h09 => (show xv g4 w4 i9 = xv g w4 i9 from by rw [(xv_a hg4 (xne hs_w4 hs_w3 (by decide))), (xv_k (i := i9) hg3 (by omega) (by omega) (by omega))])) (fun i9 hi9 => (show xv g4 w7 i9 = xv g w7 i9 from by rw [(xv_a hg4 (xne hs_w7 hs_w3 (by decide))), (xv_a hg3 (xne hs_w7 hs_w4 (by decide)))]))), (xFr.w (xFr.t xFr.rf hg3 hs_w4 (by decide)) hg4), (by rw [(Eq.trans (xv_a hg4 (xne hs_w1 hs_w3 (by decide))) (xv_a hg3 (xne hs_w1 hs_w4 (by decide)))), (Eq.trans (xv_a hg4 (xne hs_w2 hs_w3 (by decide))) (xv_a hg3 (xne hs_w2 hs_w4 (by decide))))]; exact xDa.s1 (b := x1) (c := x2) hp4 (by omega) (by omega) (by omega) hp5 (show xv g4 w3 x1 = x2 from by rw [xv_s hg4 (by omega)]) (fun i9 hi9 h09 => (show xv g4 w3 i9 = xv g w3 i9 from by rw [(xv_k (i := i9) hg4 (by omega) (by omega) (by omega)), (xv_a hg3 (xne hs_w3 hs_w4 (by decide)))])) (fun i9 hi9 h09 => (show xv g4 w4 i9 = xv g w4 i9 from by rw [(xv_a hg4 (xne hs_w4 hs_w3 (by decide))), (xv_k (i := i9) hg3 (by omega) (by omega) (by omega))])) (fun i9 hi9 => (show xv g4 w7 i9 = xv g w7 i9 from by rw [(xv_a hg4 (xne hs_w7 hs_w3 (by decide))), (xv_a hg3 (xne hs_w7 hs_w4 (by decide)))])))⟩ (Nat.le_refl _) (Nat.le_refl _)
  · refine X_aloadn hK (i := 0) 1 dX6_ask_12 rfl rfl ?_
    refine X_iloadn hK (i := 1) 2 dX6_ask_13 rfl rfl ?_
    refine X_iloadn hK (i := 3) 0 dX6_ask_14 rfl rfl ?_
    refine X_iloadn hK (i := 2) 3 dX6_ask_15 rfl rfl ?_
    refine X_callV hK [.int (iI x1), .int (iI z1), .int (iI x2)] [] lk_X6_69 (c2_isMightier _ _ _ _ _ S g a0 x1 z1 x2 w2 hs_a0 (by omega) (by omega) (by omega) ew2 hs_w2) hs_a0 ⟨by decide, rfl⟩ dX6_ask_16 rfl rfl (by simp [Value.category]) (by decide) (by decide) (by decide) (by decide) (fun r6 S8 g7 pr6 qr6 hg7 => ?_)
    obtain ⟨rfl, rfl, z9, rfl, lz9, uz9, k10⟩ := pr6
    refine X_st [.int (iI z9)] rfl ?_
    refine X_if_eq hK 63 (by omega) dX6_ask_19 (by decide) (fun c11 => ?_) (fun c11 => ?_)
    · refine X_aloadn hK (i := 0) 1 dX6_ask_63 rfl rfl ?_
      refine X_getK hK fl_X6_34_7 hs_a0 ew7 dX6_ask_64 ?_
      refine X_iloadn hK (i := 1) 2 dX6_ask_67 rfl rfl ?_
      refine X_bipush hK dX6_ask_68 (by decide) ?_
      refine X_imul hK dX6_ask_70 ?_
      refine X_iloadn hK (i := 2) 3 dX6_ask_71 rfl rfl ?_
      refine X_iadd hK dX6_ask_72 ?_
      refine X_iconst hK dX6_ask_73 ?_
      refine X_zast hK hs_w7 (by decide) (by decide) sl_12701 (by omega) (by omega) (by omega) (by omega) dX6_ask_74 (fun g12 hg12 => ?_)
      exact hret _ _ _ _ _ _ dX6_ask_75 ⟨rfl, rfl, (xOf_2 (b := x1) (c := x2) (j := ((x1 * 8) + x2)) hp0 (by omega) (by omega) (by omega) (by omega) (by omega) (by omega) (by rw [show ((x1 * 8) + x2) = 8 * x1 + x2 by omega]; exact hp3) (show xv g12 w7 ((x1 * 8) + x2) = 1 from by rw [xv_s hg12 (by omega)]) (fun i9 hi9 h09 => (show xv g12 w7 i9 = xv g w7 i9 from by rw [(xv_k (i := i9) hg12 (by omega) (by omega) (by omega))])) (fun i9 hi9 => (show xv g12 w3 i9 = xv g w3 i9 from by rw [(xv_a hg12 (xne hs_w3 hs_w7 (by decide)))])) (fun i9 hi9 => (show xv g12 w4 i9 = xv g w4 i9 from by rw [(xv_a hg12 (xne hs_w4 hs_w7 (by decide)))]))), (xFr.t xFr.rf hg12 hs_w7 (by decide)), (by rw [(xv_a hg12 (xne hs_w1 hs_w7 (by decide))), (xv_a hg12 (xne hs_w2 hs_w7 (by decide)))]; exact xDa_2 (b := x1) (c := x2) (d := z1) (j := ((x1 * 8) + x2)) hp4 hp0 (by omega) (by omega) (by omega) (by omega) (by omega) hvz1 (by omega) (fun q9 => by have h8 := k10.mpr q9; omega) (show xv g12 w7 ((x1 * 8) + x2) = 1 from by rw [xv_s hg12 (by omega)]) (fun i9 hi9 h09 => (show xv g12 w7 i9 = xv g w7 i9 from by rw [(xv_k (i := i9) hg12 (by omega) (by omega) (by omega))])) (fun i9 hi9 => (show xv g12 w3 i9 = xv g w3 i9 from by rw [(xv_a hg12 (xne hs_w3 hs_w7 (by decide)))])) (fun i9 hi9 => (show xv g12 w4 i9 = xv g w4 i9 from by rw [(xv_a hg12 (xne hs_w4 hs_w7 (by decide)))])))⟩ (Nat.le_refl _) (Nat.le_refl _)
    · refine X_aloadn hK (i := 0) 1 dX6_ask_22 rfl rfl ?_
      refine X_getK hK fl_X6_25_7 hs_a0 ew4 dX6_ask_23 ?_
      refine X_iloadn hK (i := 2) 3 dX6_ask_26 rfl rfl ?_
      refine X_iloadn hK (i := 1) 2 dX6_ask_27 rfl rfl ?_
      refine X_iast hK hs_w4 (by decide) (by decide) sl_12400 (by omega) (by omega) (by omega) (by omega) dX6_ask_28 (fun g13 hg13 => ?_)
      refine X_aloadn hK (i := 0) 1 dX6_ask_29 rfl rfl ?_
      refine X_getK hK fl_X6_22_7 hs_a0 ((xs_a hg13 (xne hs_a0 hs_w4 (by decide))).trans ew3) dX6_ask_30 ?_
      refine X_iloadn hK (i := 1) 2 dX6_ask_33 rfl rfl ?_
      refine X_iloadn hK (i := 2) 3 dX6_ask_34 rfl rfl ?_
      refine X_iast hK hs_w3 (by decide) (by decide) sl_12300 (by omega) (by omega) (by omega) (by omega) dX6_ask_35 (fun g14 hg14 => ?_)
      refine X_iloadn hK (i := 3) 0 dX6_ask_36 rfl rfl ?_
      refine X_iconst hK dX6_ask_37 ?_
      refine X_icmp_eq hK 75 (by omega) (by omega) dX6_ask_38 (by decide) (fun c15 => False.elim (by omega)) (fun c15 => ?_)
      refine X_aloadn hK (i := 0) 1 dX6_ask_41 rfl rfl ?_
      refine X_getK hK fl_X6_22_7 hs_a0 ((xs_a hg14 (xne hs_a0 hs_w3 (by decide))).trans ((xs_a hg13 (xne hs_a0 hs_w4 (by decide))).trans ew3)) dX6_ask_42 ?_
      refine X_iloadn hK (i := 3) 0 dX6_ask_45 rfl rfl ?_
      refine X_iconst hK dX6_ask_46 ?_
      refine X_iast hK hs_w3 (by decide) (by decide) sl_12300 (by omega) (by omega) (by omega) (by omega) dX6_ask_47 (fun g16 hg16 => ?_)
      refine X_aloadn hK (i := 0) 1 dX6_ask_48 rfl rfl ?_
      refine X_getK hK fl_X6_34_7 hs_a0 ((xs_a hg16 (xne hs_a0 hs_w3 (by decide))).trans ((xs_a hg14 (xne hs_a0 hs_w3 (by decide))).trans ((xs_a hg13 (xne hs_a0 hs_w4 (by decide))).trans ew7))) dX6_ask_49 ?_
      refine X_iloadn hK (i := 3) 0 dX6_ask_52 rfl rfl ?_
      refine X_bipush hK dX6_ask_53 (by decide) ?_
      refine X_imul hK dX6_ask_55 ?_
      refine X_iloadn hK (i := 2) 3 dX6_ask_56 rfl rfl ?_
      refine X_iadd hK dX6_ask_57 ?_
      refine X_iconst hK dX6_ask_58 ?_
      refine X_zast hK hs_w7 (by decide) (by decide) sl_12701 (by omega) (by omega) (by omega) (by omega) dX6_ask_59 (fun g17 hg17 => ?_)
      refine X_goto hK 75 dX6_ask_60 (by decide) ?_
      exact hret _ _ _ _ _ _ dX6_ask_75 ⟨rfl, rfl, (xOf_3 (b := x1) (c := x2) (d := z1) (j := ((z1 * 8) + x2)) hp0 (by omega) (by omega) (by omega) (by omega) (by omega) (by omega) (by omega) hp3 (show xv g17 w3 x1 = x2 from by rw [(xv_a hg17 (xne hs_w3 hs_w7 (by decide))), (xv_k (i := x1) hg16 (by omega) (by omega) (by omega)), xv_s hg14 (by omega)]) (show xv g17 w3 z1 = (-1) from by rw [(xv_a hg17 (xne hs_w3 hs_w7 (by decide))), xv_s hg16 (by omega)]) (fun i9 hi9 h09 h19 => (show xv g17 w3 i9 = xv g w3 i9 from by rw [(xv_a hg17 (xne hs_w3 hs_w7 (by decide))), (xv_k (i := i9) hg16 (by omega) (by omega) (by omega)), (xv_k (i := i9) hg14 (by omega) (by omega) (by omega)), (xv_a hg13 (xne hs_w3 hs_w4 (by decide)))])) (show xv g17 w4 x2 = x1 from by rw [(xv_a hg17 (xne hs_w4 hs_w7 (by decide))), (xv_a hg16 (xne hs_w4 hs_w3 (by decide))), (xv_a hg14 (xne hs_w4 hs_w3 (by decide))), xv_s hg13 (by omega)]) (fun i9 hi9 h09 => (show xv g17 w4 i9 = xv g w4 i9 from by rw [(xv_a hg17 (xne hs_w4 hs_w7 (by decide))), (xv_a hg16 (xne hs_w4 hs_w3 (by decide))), (xv_a hg14 (xne hs_w4 hs_w3 (by decide))), (xv_k (i := i9) hg13 (by omega) (by omega) (by omega))])) (show xv g17 w7 ((z1 * 8) + x2) = 1 from by rw [xv_s hg17 (by omega)]) (fun i9 hi9 h09 => (show xv g17 w7 i9 = xv g w7 i9 from by rw [(xv_k (i := i9) hg17 (by omega) (by omega) (by omega)), (xv_a hg16 (xne hs_w7 hs_w3 (by decide))), (xv_a hg14 (xne hs_w7 hs_w3 (by decide))), (xv_a hg13 (xne hs_w7 hs_w4 (by decide)))]))), (xFr.t (xFr.w (xFr.w (xFr.t xFr.rf hg13 hs_w4 (by decide)) hg14) hg16) hg17 hs_w7 (by decide)), (by rw [(Eq.trans (Eq.trans (Eq.trans (xv_a hg17 (xne hs_w1 hs_w7 (by decide))) (xv_a hg16 (xne hs_w1 hs_w3 (by decide)))) (xv_a hg14 (xne hs_w1 hs_w3 (by decide)))) (xv_a hg13 (xne hs_w1 hs_w4 (by decide)))), (Eq.trans (Eq.trans (Eq.trans (xv_a hg17 (xne hs_w2 hs_w7 (by decide))) (xv_a hg16 (xne hs_w2 hs_w3 (by decide)))) (xv_a hg14 (xne hs_w2 hs_w3 (by decide)))) (xv_a hg13 (xne hs_w2 hs_w4 (by decide))))]; exact xDa_3 (b := x1) (c := x2) (d := z1) (j := ((z1 * 8) + x2)) hp4 hp0 (by omega) (by omega) (by omega) (by omega) (by omega) hvz1 (by omega) hp3 (k10.mp (by omega)) hp5 (show xv g17 w3 x1 = x2 from by rw [(xv_a hg17 (xne hs_w3 hs_w7 (by decide))), (xv_k (i := x1) hg16 (by omega) (by omega) (by omega)), xv_s hg14 (by omega)]) (show xv g17 w3 z1 = (-1) from by rw [(xv_a hg17 (xne hs_w3 hs_w7 (by decide))), xv_s hg16 (by omega)]) (fun i9 hi9 h09 h19 => (show xv g17 w3 i9 = xv g w3 i9 from by rw [(xv_a hg17 (xne hs_w3 hs_w7 (by decide))), (xv_k (i := i9) hg16 (by omega) (by omega) (by omega)), (xv_k (i := i9) hg14 (by omega) (by omega) (by omega)), (xv_a hg13 (xne hs_w3 hs_w4 (by decide)))])) (show xv g17 w4 x2 = x1 from by rw [(xv_a hg17 (xne hs_w4 hs_w7 (by decide))), (xv_a hg16 (xne hs_w4 hs_w3 (by decide))), (xv_a hg14 (xne hs_w4 hs_w3 (by decide))), xv_s hg13 (by omega)]) (fun i9 hi9 h09 => (show xv g17 w4 i9 = xv g w4 i9 from by rw [(xv_a hg17 (xne hs_w4 hs_w7 (by decide))), (xv_a hg16 (xne hs_w4 hs_w3 (by decide))), (xv_a hg14 (xne hs_w4 hs_w3 (by decide))), (xv_k (i := i9) hg13 (by omega) (by omega) (by omega))])) (show xv g17 w7 ((z1 * 8) + x2) = 1 from by rw [xv_s hg17 (by omega)]) (fun i9 hi9 h09 => (show xv g17 w7 i9 = xv g w7 i9 from by rw [(xv_k (i := i9) hg17 (by omega) (by omega) (by omega)), (xv_a hg16 (xne hs_w7 hs_w3 (by decide))), (xv_a hg14 (xne hs_w7 hs_w3 (by decide))), (xv_a hg13 (xne hs_w7 hs_w4 (by decide)))])))⟩ (Nat.le_refl _) (Nat.le_refl _)

set_option maxHeartbeats 4000000 in
set_option maxRecDepth 100000 in
theorem c3_gained (l : Launch) (D : va_G) (kA : Nat → ClassId) (b0 : Nat) (t0 : Nat → Nat) (S : xT) (g : xG) (a0 : Nat) (n0 : Int) (w3 : Nat) (w1 : Nat) (hs_a0 : S a0 = some (7, 0)) (hn0 : 1 ≤ n0 ∧ n0 ≤ 8) (en0 : g a0 0 = .int (iI n0)) (ew3 : g a0 3 = .ref w3) (hs_w3 : S w3 = some (12300, 8)) (ew1 : g a0 1 = .ref w1) (hs_w1 : S w1 = some (12100, 64)) (hp0 : xCo n0 (xv g w3)) : xMt l yX6_gained cX6_gained 3 (some .int) 0 0 0 0 D kA b0 t0 [] [.ref a0] S g (fun (r : Option Value) (S1 : xT) (g1 : xG) => S = S1 ∧ g = g1 ∧ ∃ z : Int, r = some (.int (iI z)) ∧ 0 ≤ z ∧ z ≤ 2040 ∧ (z = xsum (fun k => xv g w1 (8 * k + xv g w3 k)) n0.toNat)) := by
  refine xEnterI (by decide) (by simp [lg_sl, Value.category]) [(0, .ref a0)] rfl ?_
  intro K E hK hret _ _ _
  refine X_iconst hK dX6_gained_0 ?_
  refine X_istoren hK (i := 1) [(1, .int (iI 0)), (0, .ref a0)] dX6_gained_1 rfl (by decide) rfl ?_
  refine X_iconst hK dX6_gained_2 ?_
  refine X_istoren hK (i := 2) [(2, .int (iI 0)), (1, .int (iI 0)), (0, .ref a0)] dX6_gained_3 rfl (by decide) rfl ?_
  have P37 : ∀ (nP37 : Nat) (z31 : Int) (_ : 0 ≤ z31) (_ : z31 ≤ 8) (z32 : Int) (_ : 0 ≤ z32) (_ : z32 ≤ 2040) (_ : z32 = xsum (fun k => xv g w1 (8 * k + xv g w3 k)) z31.toNat) (_ : z31 ≤ n0) (_ : z32 ≤ 255 * z31) (_ : 24 - z31 < (nP37 : Int)), X K E 4 [(2, .int (iI z31)), (1, .int (iI z32)), (0, .ref a0)] [] S g 0 0 := by
    intro nP37
    induction nP37 with
    | zero => intro z31 lz31 uz31 z32 lz32 uz32 v38 v39 v40 mP37; exact False.elim (by omega)
    | succ nP37 ihP37 =>
      intro z31 lz31 uz31 z32 lz32 uz32 v38 v39 v40 mP37
      refine X_iloadn hK (i := 2) 0 dX6_gained_4 rfl rfl ?_
      refine X_aloadn hK (i := 0) 2 dX6_gained_5 rfl rfl ?_
      refine X_getK hK fl_X6_9_7 hs_a0 en0 dX6_gained_6 ?_
      refine X_icmp_ge hK 47 (by omega) (by omega) dX6_gained_9 (by decide) (fun c41 => ?_) (fun c41 => ?_)
      · refine X_iloadn hK (i := 1) 1 dX6_gained_47 rfl rfl ?_
        exact hret _ _ _ _ _ _ _ dX6_gained_48 ⟨rfl, rfl, z32, rfl, (by omega), (by omega), (by rw [show n0.toNat = z31.toNat by omega]; exact v38)⟩ (Nat.le_refl _) (Nat.le_refl _)
      · refine X_aloadn hK (i := 0) 2 dX6_gained_12 rfl rfl ?_
        refine X_getK hK fl_X6_22_7 hs_a0 ew3 dX6_gained_13 ?_
        refine X_iloadn hK (i := 2) 0 dX6_gained_16 rfl rfl ?_
        refine X_iald hK hs_w3 (by decide) sl_12300 (by omega) (by omega) dX6_gained_17 (fun z42 ez42 lz42 uz42 => ?_)
        have hr43 : xv g w3 z31 = z42 := xv_e (j := z31) ez42 (by omega)
        have hhr43 : 0 ≤ z42 := by have h9 := hp0 z31 (by omega) (by omega); rw [hr43] at h9; exact h9
        refine X_iconst hK dX6_gained_18 ?_
        refine X_icmp_eq hK 41 (by omega) (by omega) dX6_gained_19 (by decide) (fun c44 => False.elim (by omega)) (fun c44 => ?_)
        refine X_iloadn hK (i := 1) 1 dX6_gained_22 rfl rfl ?_
        refine X_aloadn hK (i := 0) 2 dX6_gained_23 rfl rfl ?_
        refine X_getK hK fl_X6_15_7 hs_a0 ew1 dX6_gained_24 ?_
        refine X_iloadn hK (i := 2) 0 dX6_gained_27 rfl rfl ?_
        refine X_bipush hK dX6_gained_28 (by decide) ?_
        refine X_imul hK dX6_gained_30 ?_
        refine X_aloadn hK (i := 0) 2 dX6_gained_31 rfl rfl ?_
        refine X_getK hK fl_X6_22_7 hs_a0 ew3 dX6_gained_32 ?_
        refine X_iloadn hK (i := 2) 0 dX6_gained_35 rfl rfl ?_
        refine X_ialdK hK hs_w3 (by decide) (by omega) (by omega) ez42 dX6_gained_36 ?_
        have hr45 : xv g w3 z31 = z42 := xv_e (j := z31) ez42 (by omega)
        have hhr45 : 0 ≤ z42 := by have h9 := hp0 z31 (by omega) (by omega); rw [hr45] at h9; exact h9
        refine X_iadd hK dX6_gained_37 ?_
        refine X_iald hK hs_w1 (by decide) sl_12100 (by omega) (by omega) dX6_gained_38 (fun z46 ez46 lz46 uz46 => ?_)
        have hq47 : xv g w1 (8 * z31 + z42) = z46 := (by rw [show 8 * z31 + z42 = ((z31 * 8) + z42) by omega]; exact xv_e (j := ((z31 * 8) + z42)) ez46 (by omega))
        refine X_iadd hK dX6_gained_39 ?_
        refine X_istoren hK (i := 1) [(1, .int (iI (z32 + z46))), (2, .int (iI z31)), (0, .ref a0)] dX6_gained_40 rfl (by decide) rfl ?_
        refine X_iinc hK (i := 2) (z := z31) (n := 1) 1 [(2, .int (iI (z31 + 1))), (1, .int (iI (z32 + z46))), (0, .ref a0)] dX6_gained_41 rfl (by decide) rfl ?_
        refine X_goto hK 4 dX6_gained_44 (by decide) ?_
        exact ihP37  (z31 + 1) (by omega) (by omega) (z32 + z46) (by omega) (by omega) (xsum_add (v := z46) v38 (by omega) (by show xv g w1 (8 * z31 + xv g w3 z31) = _; rw [hr45]; exact hq47)) (by omega) (by omega) (by omega)
  exact P37 ((24 - 0 : Int).toNat + 1) 0 (by omega) (by omega) 0 (by omega) (by omega) rfl (by omega) (by omega) (by omega)

set_option maxHeartbeats 4000000 in
set_option maxRecDepth 100000 in
theorem c_X6_partByOffers (l : Launch) (D : va_G) (kA : Nat → ClassId) (b0 : Nat) (t0 : Nat → Nat) (S : xT) (g : xG) (a0 : Nat) (n0 : Int) (w3 : Nat) (w4 : Nat) (w7 : Nat) (w1 : Nat) (w2 : Nat) (hs_a0 : S a0 = some (7, 0)) (hn0 : 1 ≤ n0 ∧ n0 ≤ 8) (en0 : g a0 0 = .int (iI n0)) (ew3 : g a0 3 = .ref w3) (hs_w3 : S w3 = some (12300, 8)) (ew4 : g a0 4 = .ref w4) (hs_w4 : S w4 = some (12400, 8)) (ew7 : g a0 7 = .ref w7) (hs_w7 : S w7 = some (12701, 64)) (ew1 : g a0 1 = .ref w1) (hs_w1 : S w1 = some (12100, 64)) (ew2 : g a0 2 = .ref w2) (hs_w2 : S w2 = some (12200, 64)) : xMt l yX6_partByOffers cX6_partByOffers 4 (some .int) 2 0 0 48 D kA b0 t0 [(12300, 0), (12400, 0), (12701, 0)] [.ref a0] S g (fun (r : Option Value) (S1 : xT) (g1 : xG) => S = S1 ∧ ∃ z : Int, r = some (.int (iI z)) ∧ 0 ≤ z ∧ z ≤ 2040 ∧ (xCo n0 (xv g1 w3)) ∧ (xFr 12300 S g g1 w3) ∧ (xOpt n0 (xv g w1) (xv g w2) (xv g1 w3)) ∧ (z = xsum (fun k => xv g1 w1 (8 * k + xv g1 w3 k)) n0.toNat)) := by
  refine xEnterI (by decide) (by simp [lg_sl, Value.category]) [(0, .ref a0)] rfl ?_
  intro K E hK hret _ _ _
  refine X_iconst hK dX6_partByOffers_0 ?_
  refine X_istoren hK (i := 1) [(1, .int (iI 0)), (0, .ref a0)] dX6_partByOffers_1 rfl (by decide) rfl ?_
  have P1125 : ∀ (nP1125 : Nat) (g986 : xG) (_ : xM [(12400, 0), (12300, 0)] S g g986) (z985 : Int) (_ : 0 ≤ z985) (_ : z985 ≤ 8) (_ : ∀ k, 0 ≤ k → k < z985 → xv g986 w3 k = -1) (_ : ∀ k, 0 ≤ k → k < z985 → xv g986 w4 k = -1) (_ : xFr 12300 S g g986 w3) (_ : 24 - z985 < (nP1125 : Int)), X K E 2 [(1, .int (iI z985)), (0, .ref a0)] [] S g986 0 0 := by
    intro nP1125
    induction nP1125 with
    | zero => intro g986 hg986 z985 lz985 uz985 v1126 v1127 v1128 mP1125; exact False.elim (by omega)
    | succ nP1125 ihP1125 =>
      intro g986 hg986 z985 lz985 uz985 v1126 v1127 v1128 mP1125
      refine X_iloadn hK (i := 1) 0 dX6_partByOffers_2 rfl rfl ?_
      refine X_bipush hK dX6_partByOffers_3 (by decide) ?_
      refine X_icmp_ge hK 28 (by omega) (by omega) dX6_partByOffers_5 (by decide) (fun c1129 => ?_) (fun c1129 => ?_)
      · refine X_iconst hK dX6_partByOffers_28 ?_
        refine X_istoren hK (i := 1) [(1, .int (iI 0)), (0, .ref a0)] dX6_partByOffers_29 rfl (by decide) rfl ?_
        have P1468 : ∀ (nP1468 : Nat) (g1402 : xG) (_ : xM [(12701, 0)] S g986 g1402) (z1401 : Int) (_ : 0 ≤ z1401) (_ : z1401 ≤ 64) (_ : ∀ k, 0 ≤ k → k < z1401 → xv g1402 w7 k = 0) (_ : xFr 12300 S g g1402 w3) (_ : 80 - z1401 < (nP1468 : Int)), X K E 30 [(1, .int (iI z1401)), (0, .ref a0)] [] S g1402 0 0 := by
          intro nP1468
          induction nP1468 with
          | zero => intro g1402 hg1402 z1401 lz1401 uz1401 v1469 v1470 mP1468; exact False.elim (by omega)
          | succ nP1468 ihP1468 =>
            intro g1402 hg1402 z1401 lz1401 uz1401 v1469 v1470 mP1468
            refine X_iloadn hK (i := 1) 0 dX6_partByOffers_30 rfl rfl ?_
            refine X_aloadn hK (i := 0) 1 dX6_partByOffers_31 rfl rfl ?_
            refine X_getK hK fl_X6_34_7 hs_a0 ((hg1402 a0 7 0 7 hs_a0 (by decide)).trans ((hg986 a0 7 0 7 hs_a0 (by decide)).trans ew7)) dX6_partByOffers_32 ?_
            refine X_alen hK (i := 1) (ty := .boolean) hs_w7 (by decide) (by decide) (fun _ => rfl) dX6_partByOffers_35 ?_
            refine X_icmp_ge hK 52 (by omega) (by omega) dX6_partByOffers_36 (by decide) (fun c1471 => ?_) (fun c1471 => ?_)
            · refine X_iconst hK dX6_partByOffers_52 ?_
              refine X_istoren hK (i := 1) [(1, .int (iI 0)), (0, .ref a0)] dX6_partByOffers_53 rfl (by decide) rfl ?_
              have P1651 : ∀ (nP1651 : Nat) (g1622 : xG) (_ : xM [(12400, 0), (12300, 0), (12701, 0)] S g1402 g1622) (z1621 : Int) (_ : 0 ≤ z1621) (_ : z1621 ≤ 73) (_ : xOf n0 (xv g1622 w3) (xv g1622 w4) (xv g1622 w7)) (_ : z1621 ≤ xPh n0 (xv g1622 w4) (xv g1622 w7)) (_ : xDa n0 (xv g1622 w1) (xv g1622 w2) (xv g1622 w3) (xv g1622 w4) (xv g1622 w7)) (_ : xFr 12300 S g g1622 w3) (_ : 89 - z1621 < (nP1651 : Int)), X K E 54 [(1, .int (iI z1621)), (0, .ref a0)] [] S g1622 0 0 := by
                intro nP1651
                induction nP1651 with
                | zero => intro g1622 hg1622 z1621 lz1621 uz1621 v1652 v1653 v1654 v1655 mP1651; exact False.elim (by omega)
                | succ nP1651 ihP1651 =>
                  intro g1622 hg1622 z1621 lz1621 uz1621 v1652 v1653 v1654 v1655 mP1651
                  refine X_iloadn hK (i := 1) 0 dX6_partByOffers_54 rfl rfl ?_
                  refine X_aloadn hK (i := 0) 1 dX6_partByOffers_55 rfl rfl ?_
                  refine X_getK hK fl_X6_9_7 hs_a0 ((hg1622 a0 7 0 0 hs_a0 (by decide)).trans ((hg1402 a0 7 0 0 hs_a0 (by decide)).trans ((hg986 a0 7 0 0 hs_a0 (by decide)).trans en0))) dX6_partByOffers_56 ?_
                  refine X_aloadn hK (i := 0) 1 dX6_partByOffers_59 rfl rfl ?_
                  refine X_getK hK fl_X6_9_7 hs_a0 ((hg1622 a0 7 0 0 hs_a0 (by decide)).trans ((hg1402 a0 7 0 0 hs_a0 (by decide)).trans ((hg986 a0 7 0 0 hs_a0 (by decide)).trans en0))) dX6_partByOffers_60 ?_
                  refine X_imul hK dX6_partByOffers_63 ?_
                  have hm1656 := xmulB (a := n0) (b := n0) (A := 8) (B := 8) (by omega) (by omega) (by omega) (by omega)
                  refine X_aloadn hK (i := 0) 1 dX6_partByOffers_64 rfl rfl ?_
                  refine X_getK hK fl_X6_9_7 hs_a0 ((hg1622 a0 7 0 0 hs_a0 (by decide)).trans ((hg1402 a0 7 0 0 hs_a0 (by decide)).trans ((hg986 a0 7 0 0 hs_a0 (by decide)).trans en0))) dX6_partByOffers_65 ?_
                  refine X_iadd hK dX6_partByOffers_68 ?_
                  have hPg1622 := xPh_le (n := n0) (xv g1622 w4) (xv g1622 w7) (by omega)
                  refine X_icmp_gt hK 112 (by omega) (by omega) dX6_partByOffers_69 (by decide) (fun c1657 => False.elim (by omega)) (fun c1657 => ?_)
                  refine X_aloadn hK (i := 0) 1 dX6_partByOffers_72 rfl rfl ?_
                  refine X_callV hK [] [] lk_X6_54 (c2_boyWithout _ _ _ _ _ S g1622 a0 n0 w3 hs_a0 (by omega) ((hg1622 a0 7 0 0 hs_a0 (by decide)).trans ((hg1402 a0 7 0 0 hs_a0 (by decide)).trans ((hg986 a0 7 0 0 hs_a0 (by decide)).trans en0))) ((hg1622 a0 7 0 3 hs_a0 (by decide)).trans ((hg1402 a0 7 0 3 hs_a0 (by decide)).trans ((hg986 a0 7 0 3 hs_a0 (by decide)).trans ew3))) hs_w3) hs_a0 ⟨by decide, rfl⟩ dX6_partByOffers_73 rfl rfl (by simp [Value.category]) (by decide) (by decide) (by decide) (by decide) (fun r1658 S1660 g1659 pr1658 qr1658 hg1659 => ?_)
                  obtain ⟨rfl, rfl, z1661, rfl, lz1661, uz1661, k1662, k1663⟩ := pr1658
                  refine X_st [.int (iI z1661)] rfl ?_
                  refine X_istoren hK (i := 2) [(2, .int (iI z1661)), (1, .int (iI z1621)), (0, .ref a0)] dX6_partByOffers_76 rfl (by decide) rfl ?_
                  refine X_iloadn hK (i := 2) 0 dX6_partByOffers_77 rfl rfl ?_
                  refine X_iconst hK dX6_partByOffers_78 ?_
                  refine X_icmp_ne hK 86 (by omega) (by omega) dX6_partByOffers_79 (by decide) (fun c1664 => ?_) (fun c1664 => ?_)
                  · refine X_aloadn hK (i := 0) 2 dX6_partByOffers_86 rfl rfl ?_
                    refine X_iloadn hK (i := 2) 0 dX6_partByOffers_87 rfl rfl ?_
                    refine X_callV hK [.int (iI z1661)] [] lk_X6_58 (c2_dearestOf _ _ _ _ _ S g1622 a0 z1661 n0 w3 w4 w7 w1 hs_a0 (by omega) (by omega) ((hg1622 a0 7 0 0 hs_a0 (by decide)).trans ((hg1402 a0 7 0 0 hs_a0 (by decide)).trans ((hg986 a0 7 0 0 hs_a0 (by decide)).trans en0))) ((hg1622 a0 7 0 3 hs_a0 (by decide)).trans ((hg1402 a0 7 0 3 hs_a0 (by decide)).trans ((hg986 a0 7 0 3 hs_a0 (by decide)).trans ew3))) hs_w3 ((hg1622 a0 7 0 4 hs_a0 (by decide)).trans ((hg1402 a0 7 0 4 hs_a0 (by decide)).trans ((hg986 a0 7 0 4 hs_a0 (by decide)).trans ew4))) hs_w4 ((hg1622 a0 7 0 7 hs_a0 (by decide)).trans ((hg1402 a0 7 0 7 hs_a0 (by decide)).trans ((hg986 a0 7 0 7 hs_a0 (by decide)).trans ew7))) hs_w7 ((hg1622 a0 7 0 1 hs_a0 (by decide)).trans ((hg1402 a0 7 0 1 hs_a0 (by decide)).trans ((hg986 a0 7 0 1 hs_a0 (by decide)).trans ew1))) hs_w1 v1652 (by omega) (by omega)) hs_a0 ⟨by decide, rfl⟩ dX6_partByOffers_88 rfl rfl (by simp [Value.category]) (by decide) (by decide) (by decide) (by decide) (fun r1665 S1667 g1666 pr1665 qr1665 hg1666 => ?_)
                    obtain ⟨rfl, rfl, z1668, rfl, lz1668, uz1668, k1669, k1670⟩ := pr1665
                    refine X_st [.int (iI z1668)] rfl ?_
                    refine X_istoren hK (i := 3) [(3, .int (iI z1668)), (2, .int (iI z1661)), (1, .int (iI z1621)), (0, .ref a0)] dX6_partByOffers_91 rfl (by decide) rfl ?_
                    refine X_iloadn hK (i := 3) 0 dX6_partByOffers_92 rfl rfl ?_
                    refine X_iconst hK dX6_partByOffers_93 ?_
                    refine X_icmp_ne hK 100 (by omega) (by omega) dX6_partByOffers_94 (by decide) (fun c1671 => ?_) (fun c1671 => False.elim (by omega))
                    refine X_aloadn hK (i := 0) 3 dX6_partByOffers_100 rfl rfl ?_
                    refine X_iloadn hK (i := 2) 1 dX6_partByOffers_101 rfl rfl ?_
                    refine X_iloadn hK (i := 3) 0 dX6_partByOffers_102 rfl rfl ?_
                    refine X_callV hK [.int (iI z1661), .int (iI z1668)] [] lk_X6_62 (c2_ask _ _ _ _ _ S g1622 a0 z1661 z1668 n0 w3 w4 w7 w1 w2 hs_a0 (by omega) (by omega) (by omega) ((hg1622 a0 7 0 0 hs_a0 (by decide)).trans ((hg1402 a0 7 0 0 hs_a0 (by decide)).trans ((hg986 a0 7 0 0 hs_a0 (by decide)).trans en0))) ((hg1622 a0 7 0 3 hs_a0 (by decide)).trans ((hg1402 a0 7 0 3 hs_a0 (by decide)).trans ((hg986 a0 7 0 3 hs_a0 (by decide)).trans ew3))) hs_w3 ((hg1622 a0 7 0 4 hs_a0 (by decide)).trans ((hg1402 a0 7 0 4 hs_a0 (by decide)).trans ((hg986 a0 7 0 4 hs_a0 (by decide)).trans ew4))) hs_w4 ((hg1622 a0 7 0 7 hs_a0 (by decide)).trans ((hg1402 a0 7 0 7 hs_a0 (by decide)).trans ((hg986 a0 7 0 7 hs_a0 (by decide)).trans ew7))) hs_w7 ((hg1622 a0 7 0 1 hs_a0 (by decide)).trans ((hg1402 a0 7 0 1 hs_a0 (by decide)).trans ((hg986 a0 7 0 1 hs_a0 (by decide)).trans ew1))) hs_w1 ((hg1622 a0 7 0 2 hs_a0 (by decide)).trans ((hg1402 a0 7 0 2 hs_a0 (by decide)).trans ((hg986 a0 7 0 2 hs_a0 (by decide)).trans ew2))) hs_w2 v1652 (by omega) (by omega) (by omega) v1654 k1670) hs_a0 ⟨by decide, rfl⟩ dX6_partByOffers_103 rfl rfl (by simp [Value.category]) (by decide) (by decide) (by decide) (by decide) (fun r1672 S1674 g1673 pr1672 qr1672 hg1673 => ?_)
                    obtain ⟨rfl, rfl, k1675, k1676, k1677⟩ := pr1672
                    refine X_st [] rfl ?_
                    have hhk1675 := k1675.2
                    refine X_iinc hK (i := 1) (z := z1621) (n := 1) 2 [(1, .int (iI (z1621 + 1))), (3, .int (iI z1668)), (2, .int (iI z1661)), (0, .ref a0)] dX6_partByOffers_106 rfl (by decide) rfl ?_
                    refine X_goto hK 54 dX6_partByOffers_109 (by decide) ?_
                    refine X_lv [(1, .int (iI (z1621 + 1))), (0, .ref a0)] [0, 3] rfl ?_
                    exact ihP1651  g1673 (xM.tr (xM.tr xM.rf xLe.rf hg1622 (by decide)) xLe.rf hg1673 (by decide)) (z1621 + 1) (by omega) (by omega) k1675.1 (by omega) k1677 (xFr.tr v1655 k1676) (by omega)
                  · refine X_iconst hK dX6_partByOffers_82 ?_
                    refine X_goto hK 91 dX6_partByOffers_83 (by decide) ?_
                    refine X_istoren hK (i := 3) [(3, .int (iI (-1))), (2, .int (iI z1661)), (1, .int (iI z1621)), (0, .ref a0)] dX6_partByOffers_91 rfl (by decide) rfl ?_
                    refine X_iloadn hK (i := 3) 0 dX6_partByOffers_92 rfl rfl ?_
                    refine X_iconst hK dX6_partByOffers_93 ?_
                    refine X_icmp_ne hK 100 (by omega) (by omega) dX6_partByOffers_94 (by decide) (fun c1678 => False.elim (by omega)) (fun c1678 => ?_)
                    refine X_goto hK 112 dX6_partByOffers_97 (by decide) ?_
                    refine X_aloadn hK (i := 0) 3 dX6_partByOffers_112 rfl rfl ?_
                    refine X_callV hK [] [] lk_X6_66 (c3_gained _ _ _ _ _ S g1622 a0 n0 w3 w1 hs_a0 (by omega) ((hg1622 a0 7 0 0 hs_a0 (by decide)).trans ((hg1402 a0 7 0 0 hs_a0 (by decide)).trans ((hg986 a0 7 0 0 hs_a0 (by decide)).trans en0))) ((hg1622 a0 7 0 3 hs_a0 (by decide)).trans ((hg1402 a0 7 0 3 hs_a0 (by decide)).trans ((hg986 a0 7 0 3 hs_a0 (by decide)).trans ew3))) hs_w3 ((hg1622 a0 7 0 1 hs_a0 (by decide)).trans ((hg1402 a0 7 0 1 hs_a0 (by decide)).trans ((hg986 a0 7 0 1 hs_a0 (by decide)).trans ew1))) hs_w1 (xOf.co v1652 (k1662 (by omega)))) hs_a0 ⟨by decide, rfl⟩ dX6_partByOffers_113 rfl rfl (by simp [Value.category]) (by decide) (by decide) (by decide) (by decide) (fun r1679 S1681 g1680 pr1679 qr1679 hg1680 => ?_)
                    obtain ⟨rfl, rfl, z1682, rfl, lz1682, uz1682, k1683⟩ := pr1679
                    refine X_st [.int (iI z1682)] rfl ?_
                    exact hret _ _ _ _ _ _ _ dX6_partByOffers_116 ⟨rfl, z1682, rfl, (by omega), (by omega), (xOf.co v1652 (k1662 (by omega))), v1655, (by rw [← (Eq.trans (Eq.trans (xv_m hg1622 hs_w1 (by decide) (by decide)) (xv_m hg1402 hs_w1 (by decide) (by decide))) (xv_m hg986 hs_w1 (by decide) (by decide))), ← (Eq.trans (Eq.trans (xv_m hg1622 hs_w2 (by decide) (by decide)) (xv_m hg1402 hs_w2 (by decide) (by decide))) (xv_m hg986 hs_w2 (by decide) (by decide)))]; exact xDa.fin v1654 v1652 (k1662 (by omega))), k1683⟩ (Nat.le_refl _) (Nat.le_refl _)
              exact P1651 ((89 - 0 : Int).toNat + 1) g1402 xM.rf 0 (by omega) (by omega) (xOf.ini (fun k q1 q2 => by rw [(xv_m hg1402 hs_w3 (by decide) (by decide))]; exact v1126 k q1 (by omega)) (fun k q1 q2 => by rw [(xv_m hg1402 hs_w4 (by decide) (by decide))]; exact v1127 k q1 (by omega)) (fun k q1 q2 => v1469 k q1 (by omega)) (by omega)) (by have h9 := xPh_le (n := n0) (xv g1402 w4) (xv g1402 w7) (by omega); omega) (xDa.ini (fun k q1 q2 => by rw [(xv_m hg1402 hs_w3 (by decide) (by decide))]; exact v1126 k q1 (by omega)) (fun k q1 q2 => v1469 k q1 (by omega)) (by omega)) v1470 (by omega)
            · refine X_aloadn hK (i := 0) 1 dX6_partByOffers_39 rfl rfl ?_
              refine X_getK hK fl_X6_34_7 hs_a0 ((hg1402 a0 7 0 7 hs_a0 (by decide)).trans ((hg986 a0 7 0 7 hs_a0 (by decide)).trans ew7)) dX6_partByOffers_40 ?_
              refine X_iloadn hK (i := 1) 0 dX6_partByOffers_43 rfl rfl ?_
              refine X_iconst hK dX6_partByOffers_44 ?_
              refine X_zast hK hs_w7 (by decide) (by decide) sl_12701 (by omega) (by omega) (by omega) (by omega) dX6_partByOffers_45 (fun g1684 hg1684 => ?_)
              refine X_iinc hK (i := 1) (z := z1401) (n := 1) 0 [(1, .int (iI (z1401 + 1))), (0, .ref a0)] dX6_partByOffers_46 rfl (by decide) rfl ?_
              refine X_goto hK 30 dX6_partByOffers_49 (by decide) ?_
              exact ihP1468  g1684 (xM_ua (xM.tr xM.rf xLe.rf hg1402 (by decide)) hg1684 hs_w7 (by decide) (by decide)) (z1401 + 1) (by omega) (by omega) (xpre (P := fun x => x = 0) v1469 (fun i9 hi9 h09 => (show xv g1684 w7 i9 = xv g1402 w7 i9 from by rw [(xv_k (i := i9) hg1684 (by omega) (by omega) (by omega))])) (show xv g1684 w7 z1401 = 0 from by rw [xv_s hg1684 (by omega)])) (xFr.t v1470 hg1684 hs_w7 (by decide)) (by omega)
        exact P1468 ((80 - 0 : Int).toNat + 1) g986 xM.rf 0 (by omega) (by omega) (fun k q1 q2 => by omega) v1128 (by omega)
      · refine X_aloadn hK (i := 0) 1 dX6_partByOffers_8 rfl rfl ?_
        refine X_getK hK fl_X6_22_7 hs_a0 ((hg986 a0 7 0 3 hs_a0 (by decide)).trans ew3) dX6_partByOffers_9 ?_
        refine X_iloadn hK (i := 1) 0 dX6_partByOffers_12 rfl rfl ?_
        refine X_iconst hK dX6_partByOffers_13 ?_
        refine X_iast hK hs_w3 (by decide) (by decide) sl_12300 (by omega) (by omega) (by omega) (by omega) dX6_partByOffers_14 (fun g1685 hg1685 => ?_)
        refine X_aloadn hK (i := 0) 1 dX6_partByOffers_15 rfl rfl ?_
        refine X_getK hK fl_X6_25_7 hs_a0 ((xs_a hg1685 (xne hs_a0 hs_w3 (by decide))).trans ((hg986 a0 7 0 4 hs_a0 (by decide)).trans ew4)) dX6_partByOffers_16 ?_
        refine X_iloadn hK (i := 1) 0 dX6_partByOffers_19 rfl rfl ?_
        refine X_iconst hK dX6_partByOffers_20 ?_
        refine X_iast hK hs_w4 (by decide) (by decide) sl_12400 (by omega) (by omega) (by omega) (by omega) dX6_partByOffers_21 (fun g1686 hg1686 => ?_)
        refine X_iinc hK (i := 1) (z := z985) (n := 1) 0 [(1, .int (iI (z985 + 1))), (0, .ref a0)] dX6_partByOffers_22 rfl (by decide) rfl ?_
        refine X_goto hK 2 dX6_partByOffers_25 (by decide) ?_
        exact ihP1125  g1686 (xM_ua (xM_ua (xM.tr xM.rf xLe.rf hg986 (by decide)) hg1685 hs_w3 (by decide) (by decide)) hg1686 hs_w4 (by decide) (by decide)) (z985 + 1) (by omega) (by omega) (xpre (P := fun x => x = -1) v1126 (fun i9 hi9 h09 => (show xv g1686 w3 i9 = xv g986 w3 i9 from by rw [(xv_a hg1686 (xne hs_w3 hs_w4 (by decide))), (xv_k (i := i9) hg1685 (by omega) (by omega) (by omega))])) (show xv g1686 w3 z985 = (-1) from by rw [(xv_a hg1686 (xne hs_w3 hs_w4 (by decide))), xv_s hg1685 (by omega)])) (xpre (P := fun x => x = -1) v1127 (fun i9 hi9 h09 => (show xv g1686 w4 i9 = xv g986 w4 i9 from by rw [(xv_k (i := i9) hg1686 (by omega) (by omega) (by omega)), (xv_a hg1685 (xne hs_w4 hs_w3 (by decide)))])) (show xv g1686 w4 z985 = (-1) from by rw [xv_s hg1686 (by omega)])) (xFr.t (xFr.w v1128 hg1685) hg1686 hs_w4 (by decide)) (by omega)
  exact P1125 ((24 - 0 : Int).toNat + 1) g xM.rf 0 (by omega) (by omega) (fun k q1 q2 => by omega) (fun k q1 q2 => by omega) xFr.rf (by omega)

set_option maxHeartbeats 4000000 in
set_option maxRecDepth 100000 in
theorem c2_place_8 (l : Launch) (D : va_G) (kA : Nat → ClassId) (b0 : Nat) (t0 : Nat → Nat) (S : xT) (g : xG) (a0 : Nat) (x1 : Int) (x2 : Int) (x3 : Int) (y4 : Int64) (n0 : Int) (w3 : Nat) (m0 : Int) (hs_a0 : S a0 = some (7, 0)) (hx1 : 8 ≤ x1 ∧ x1 ≤ 8) (hx2 : 0 ≤ x2 ∧ x2 ≤ 255) (hx3 : (-2147483648) ≤ x3 ∧ x3 ≤ 2147483647) (hn0 : 8 ≤ n0 ∧ n0 ≤ 8) (en0 : g a0 0 = .int (iI n0)) (ew3 : g a0 3 = .ref w3) (hs_w3 : S w3 = some (12300, 8)) (hm0 : (-2147483648) ≤ m0 ∧ m0 ≤ 2147483647) (em0 : g a0 9 = .int (iI m0)) (hp0 : m0 = -1 ∨ xCo n0 (xv g w3)) : xMt l yX6_place cX6_place 8 none 0 0 0 0 D kA b0 t0 [(7, 9), (12300, 0)] [.ref a0, .int (iI x1), .int (iI x2), .int (iI x3), .long y4] S g (fun (r : Option Value) (S1 : xT) (g1 : xG) => S = S1 ∧ r = none ∧ (∃ z9 : Int, g1 a0 9 = .int (iI z9) ∧ -2147483648 ≤ z9 ∧ z9 ≤ 2147483647 ∧ (z9 = -1 ∨ xCo n0 (xv g1 w3))) ∧ (xFr 12300 S g g1 w3)) := by
  refine xEnterV (by decide) (by simp [lg_sl, Value.category]) [(0, .ref a0), (1, .int (iI x1)), (2, .int (iI x2)), (3, .int (iI x3)), (4, .long y4)] rfl ?_
  intro K E hK hret _ _ _
  refine X_iloadn hK (i := 3) 3 dX6_place_0 rfl rfl ?_
  refine X_aloadn hK (i := 0) 0 dX6_place_1 rfl rfl ?_
  refine X_getr hK 12600 256 fl_X6_31_7 hs_a0 sl_7_6 dX6_place_2 (fun b1 eb1 hs_b1 => ?_)
  refine X_iloadn hK (i := 2) 2 dX6_place_5 rfl rfl ?_
  refine X_iald hK hs_b1 (by decide) sl_12600 (by omega) (by omega) dX6_place_6 (fun z2 ez2 lz2 uz2 => ?_)
  refine X_iadd hK dX6_place_7 ?_
  refine X_norm (fun z3 ez3 lz3 uz3 => ?_)
  refine X_aloadn hK (i := 0) 0 dX6_place_8 rfl rfl ?_
  refine X_getK hK fl_X6_42_7 hs_a0 em0 dX6_place_9 ?_
  refine X_icmp_gt hK 16 (by omega) (by omega) dX6_place_12 (by decide) (fun c4 => ?_) (fun c4 => ?_)
  · refine X_iloadn hK (i := 1) 1 dX6_place_16 rfl rfl ?_
    refine X_aloadn hK (i := 0) 0 dX6_place_17 rfl rfl ?_
    refine X_getK hK fl_X6_9_7 hs_a0 en0 dX6_place_18 ?_
    refine X_icmp_ne hK 62 (by omega) (by omega) dX6_place_21 (by decide) (fun c5 => False.elim (by omega)) (fun c5 => ?_)
    refine X_aloadn hK (i := 0) 0 dX6_place_24 rfl rfl ?_
    refine X_iloadn hK (i := 3) 3 dX6_place_25 rfl rfl ?_
    refine X_puti hK fl_X6_42_7 hs_a0 (by decide) sl_7_9 (by omega) (by omega) dX6_place_26 (fun g6 hg6 => ?_)
    refine X_iconst hK dX6_place_29 ?_
    refine X_istore hK (i := 6) [(6, .int (iI 0)), (0, .ref a0), (1, .int (iI x1)), (2, .int (iI x2)), (3, .int (iI x3)), (4, .long y4)] dX6_place_30 (by decide) rfl ?_
    have P42 : ∀ (nP42 : Nat) (g37 : xG) (_ : xM [(12300, 0)] S g6 g37) (z36 : Int) (_ : 0 ≤ z36) (_ : z36 ≤ 8) (_ : ∀ k, 0 ≤ k → k < z36 → 0 ≤ xv g37 w3 k) (_ : xFr 12300 S g g37 w3) (_ : 24 - z36 < (nP42 : Int)), X K E 32 [(6, .int (iI z36)), (0, .ref a0), (1, .int (iI x1)), (2, .int (iI x2)), (3, .int (iI x3)), (4, .long y4)] [] S g37 0 0 := by
      intro nP42
      induction nP42 with
      | zero => intro g37 hg37 z36 lz36 uz36 v43 v44 mP42; exact False.elim (by omega)
      | succ nP42 ihP42 =>
        intro g37 hg37 z36 lz36 uz36 v43 v44 mP42
        refine X_iload hK (i := 6) 0 dX6_place_32 rfl ?_
        refine X_aloadn hK (i := 0) 1 dX6_place_34 rfl rfl ?_
        refine X_getK hK fl_X6_9_7 hs_a0 ((hg37 a0 7 0 0 hs_a0 (by decide)).trans ((xs_k hg6 (by decide)).trans en0)) dX6_place_35 ?_
        refine X_icmp_ge hK 61 (by omega) (by omega) dX6_place_38 (by decide) (fun c45 => ?_) (fun c45 => ?_)
        · exact hret _ _ _ _ _ _ dX6_place_61 ⟨rfl, rfl, ⟨x3, ((hg37 a0 7 0 9 hs_a0 (by decide)).trans (xs_s hg6)), by omega, by omega, Or.inr (fun k q1 q2 => v43 k q1 (by omega))⟩, v44⟩ (Nat.le_refl _) (Nat.le_refl _)
        · refine X_aloadn hK (i := 0) 1 dX6_place_41 rfl rfl ?_
          refine X_getK hK fl_X6_22_7 hs_a0 ((hg37 a0 7 0 3 hs_a0 (by decide)).trans ((xs_k hg6 (by decide)).trans ew3)) dX6_place_42 ?_
          refine X_iload hK (i := 6) 0 dX6_place_45 rfl ?_
          refine X_aloadn hK (i := 0) 1 dX6_place_47 rfl rfl ?_
          refine X_getr hK 12500 8 fl_X6_28_7 hs_a0 sl_7_5 dX6_place_48 (fun b46 eb46 hs_b46 => ?_)
          refine X_iload hK (i := 6) 0 dX6_place_51 rfl ?_
          refine X_iald hK hs_b46 (by decide) sl_12500 (by omega) (by omega) dX6_place_53 (fun z47 ez47 lz47 uz47 => ?_)
          refine X_iast hK hs_w3 (by decide) (by decide) sl_12300 (by omega) (by omega) (by omega) (by omega) dX6_place_54 (fun g48 hg48 => ?_)
          refine X_iinc hK (i := 6) (z := z36) (n := 1) 0 [(6, .int (iI (z36 + 1))), (0, .ref a0), (1, .int (iI x1)), (2, .int (iI x2)), (3, .int (iI x3)), (4, .long y4)] dX6_place_55 rfl (by decide) rfl ?_
          refine X_goto hK 32 dX6_place_58 (by decide) ?_
          exact ihP42  g48 (xM_ua (xM.tr xM.rf xLe.rf hg37 (by decide)) hg48 hs_w3 (by decide) (by decide)) (z36 + 1) (by omega) (by omega) (xpre (P := fun x => 0 ≤ x) v43 (fun i9 hi9 h09 => (show xv g48 w3 i9 = xv g37 w3 i9 from by rw [(xv_k (i := i9) hg48 (by omega) (by omega) (by omega))])) (by rw [show xv g48 w3 z36 = _ from (show xv g48 w3 z36 = z47 from by rw [xv_s hg48 (by omega)])]; omega)) (xFr.w v44 hg48) (by omega)
    exact P42 ((24 - 0 : Int).toNat + 1) g6 xM.rf 0 (by omega) (by omega) (fun k q1 q2 => by omega) (xFr.t xFr.rf hg6 hs_a0 (by decide)) (by omega)
  · exact hret _ _ _ _ _ _ dX6_place_15 ⟨rfl, rfl, ⟨m0, em0, by omega, by omega, hp0⟩, xFr.rf⟩ (Nat.le_refl _) (Nat.le_refl _)

set_option maxHeartbeats 4000000 in
set_option maxRecDepth 100000 in
theorem c2_place_7 (l : Launch) (D : va_G) (kA : Nat → ClassId) (b0 : Nat) (t0 : Nat → Nat) (S : xT) (g : xG) (a0 : Nat) (x1 : Int) (x2 : Int) (x3 : Int) (y4 : Int64) (n0 : Int) (w3 : Nat) (m0 : Int) (hs_a0 : S a0 = some (7, 0)) (hx1 : 7 ≤ x1 ∧ x1 ≤ 7) (hx2 : 0 ≤ x2 ∧ x2 ≤ 255) (hx3 : (-2147483648) ≤ x3 ∧ x3 ≤ 2147483647) (hn0 : 7 ≤ n0 ∧ n0 ≤ 8) (en0 : g a0 0 = .int (iI n0)) (ew3 : g a0 3 = .ref w3) (hs_w3 : S w3 = some (12300, 8)) (hm0 : (-2147483648) ≤ m0 ∧ m0 ≤ 2147483647) (em0 : g a0 9 = .int (iI m0)) (hp0 : m0 = -1 ∨ xCo n0 (xv g w3)) : xMt l yX6_place cX6_place 8 none 1 0 0 27 D kA b0 t0 [(12500, 0), (7, 9), (12300, 0)] [.ref a0, .int (iI x1), .int (iI x2), .int (iI x3), .long y4] S g (fun (r : Option Value) (S1 : xT) (g1 : xG) => S = S1 ∧ r = none ∧ (∃ z9 : Int, g1 a0 9 = .int (iI z9) ∧ -2147483648 ≤ z9 ∧ z9 ≤ 2147483647 ∧ (z9 = -1 ∨ xCo n0 (xv g1 w3))) ∧ (xFr 12300 S g g1 w3)) := by
  refine xEnterV (by decide) (by simp [lg_sl, Value.category]) [(0, .ref a0), (1, .int (iI x1)), (2, .int (iI x2)), (3, .int (iI x3)), (4, .long y4)] rfl ?_
  intro K E hK hret _ _ _
  refine X_iloadn hK (i := 3) 3 dX6_place_0 rfl rfl ?_
  refine X_aloadn hK (i := 0) 0 dX6_place_1 rfl rfl ?_
  refine X_getr hK 12600 256 fl_X6_31_7 hs_a0 sl_7_6 dX6_place_2 (fun b1 eb1 hs_b1 => ?_)
  refine X_iloadn hK (i := 2) 2 dX6_place_5 rfl rfl ?_
  refine X_iald hK hs_b1 (by decide) sl_12600 (by omega) (by omega) dX6_place_6 (fun z2 ez2 lz2 uz2 => ?_)
  refine X_iadd hK dX6_place_7 ?_
  refine X_norm (fun z3 ez3 lz3 uz3 => ?_)
  refine X_aloadn hK (i := 0) 0 dX6_place_8 rfl rfl ?_
  refine X_getK hK fl_X6_42_7 hs_a0 em0 dX6_place_9 ?_
  refine X_icmp_gt hK 16 (by omega) (by omega) dX6_place_12 (by decide) (fun c4 => ?_) (fun c4 => ?_)
  · refine X_iloadn hK (i := 1) 1 dX6_place_16 rfl rfl ?_
    refine X_aloadn hK (i := 0) 0 dX6_place_17 rfl rfl ?_
    refine X_getK hK fl_X6_9_7 hs_a0 en0 dX6_place_18 ?_
    refine X_icmp_ne hK 62 (by omega) (by omega) dX6_place_21 (by decide) (fun c5 => ?_) (fun c5 => ?_)
    · refine X_iconst hK dX6_place_62 ?_
      refine X_istore hK (i := 6) [(6, .int (iI 0)), (0, .ref a0), (1, .int (iI x1)), (2, .int (iI x2)), (3, .int (iI x3)), (4, .long y4)] dX6_place_63 (by decide) rfl ?_
      have P161 : ∀ (nP161 : Nat) (g136 : xG) (_ : xM [(7, 9), (12300, 0), (12500, 0)] S g g136) (z135 : Int) (_ : 0 ≤ z135) (_ : z135 ≤ 8) (q137 : Int) (_ : (-2147483648) ≤ q137) (_ : q137 ≤ 2147483647) (_ : g136 a0 9 = .int (iI q137)) (_ : q137 = -1 ∨ xCo n0 (xv g136 w3)) (_ : xFr 12300 S g g136 w3) (_ : 24 - z135 < (nP161 : Int)), X K E 65 [(6, .int (iI z135)), (0, .ref a0), (1, .int (iI x1)), (2, .int (iI x2)), (3, .int (iI x3)), (4, .long y4)] [] S g136 0 0 := by
        intro nP161
        induction nP161 with
        | zero => intro g136 hg136 z135 lz135 uz135 q137 lq137 uq137 eq137 v162 v163 mP161; exact False.elim (by omega)
        | succ nP161 ihP161 =>
          intro g136 hg136 z135 lz135 uz135 q137 lq137 uq137 eq137 v162 v163 mP161
          refine X_iload hK (i := 6) 0 dX6_place_65 rfl ?_
          refine X_aloadn hK (i := 0) 1 dX6_place_67 rfl rfl ?_
          refine X_getK hK fl_X6_9_7 hs_a0 ((hg136 a0 7 0 0 hs_a0 (by decide)).trans en0) dX6_place_68 ?_
          refine X_icmp_ge hK 141 (by omega) (by omega) dX6_place_71 (by decide) (fun c164 => ?_) (fun c164 => ?_)
          · exact hret _ _ _ _ _ _ dX6_place_141 ⟨rfl, rfl, ⟨q137, eq137, by omega, by omega, v162⟩, v163⟩ (Nat.le_refl _) (Nat.le_refl _)
          · refine X_iloadn hK (i := 1) 2 dX6_place_74 rfl rfl ?_
            refine X_bipush hK dX6_place_75 (by decide) ?_
            refine X_imul hK dX6_place_77 ?_
            refine X_iload hK (i := 6) 0 dX6_place_78 rfl ?_
            refine X_iadd hK dX6_place_80 ?_
            refine X_istore hK (i := 7) [(7, .int (iI ((x1 * 8) + z135))), (6, .int (iI z135)), (0, .ref a0), (1, .int (iI x1)), (2, .int (iI x2)), (3, .int (iI x3)), (4, .long y4)] dX6_place_81 (by decide) rfl ?_
            refine X_lload hK (i := 4) 6 dX6_place_83 rfl ?_
            refine X_iload hK (i := 7) 0 dX6_place_85 rfl ?_
            refine X_lushr hK dX6_place_87 (fun y165 => ?_)
            refine X_lconst hK dX6_place_88 (fun y166 => ?_)
            refine X_land hK dX6_place_89 (fun y167 => ?_)
            refine X_lconst hK dX6_place_90 (fun y168 => ?_)
            refine X_lcmp hK dX6_place_91 (fun z169 lz169 uz169 => ?_)
            refine X_if_ne hK 135 (by omega) dX6_place_92 (by decide) (fun c170 => ?_) (fun c170 => ?_)
            · refine X_iinc hK (i := 6) (z := z135) (n := 1) 1 [(6, .int (iI (z135 + 1))), (7, .int (iI ((x1 * 8) + z135))), (0, .ref a0), (1, .int (iI x1)), (2, .int (iI x2)), (3, .int (iI x3)), (4, .long y4)] dX6_place_135 rfl (by decide) rfl ?_
              refine X_goto hK 65 dX6_place_138 (by decide) ?_
              refine X_lv [(6, .int (iI (z135 + 1))), (0, .ref a0), (1, .int (iI x1)), (2, .int (iI x2)), (3, .int (iI x3)), (4, .long y4)] [0, 2, 3, 4, 5, 6] rfl ?_
              exact ihP161  g136 (xM.tr xM.rf xLe.rf hg136 (by decide)) (z135 + 1) (by omega) (by omega) q137 (by omega) (by omega) eq137 v162 v163 (by omega)
            · refine X_aloadn hK (i := 0) 2 dX6_place_95 rfl rfl ?_
              refine X_getr hK 12500 8 fl_X6_28_7 hs_a0 sl_7_5 dX6_place_96 (fun b171 eb171 hs_b171 => ?_)
              refine X_iloadn hK (i := 1) 3 dX6_place_99 rfl rfl ?_
              refine X_iload hK (i := 6) 1 dX6_place_100 rfl ?_
              refine X_iast hK hs_b171 (by decide) (by decide) sl_12500 (by omega) (by omega) (by omega) (by omega) dX6_place_102 (fun g172 hg172 => ?_)
              refine X_aloadn hK (i := 0) 2 dX6_place_103 rfl rfl ?_
              refine X_iloadn hK (i := 1) 3 dX6_place_104 rfl rfl ?_
              refine X_iconst hK dX6_place_105 ?_
              refine X_iadd hK dX6_place_106 ?_
              refine X_iloadn hK (i := 2) 4 dX6_place_107 rfl rfl ?_
              refine X_iconst hK dX6_place_108 ?_
              refine X_iload hK (i := 6) 1 dX6_place_109 rfl ?_
              refine X_ishl hK dX6_place_111 (fun z173 ez173 lz173 uz173 => ?_)
              have bz173 := xshlB 7 ez173 ⟨lz173, uz173⟩ (by omega) (by decide)
              refine X_ior hK dX6_place_112 (fun z174 ez174 lz174 uz174 => ?_)
              have bz174 := xiorB 8 ez174 ⟨lz174, uz174⟩ (by omega) (by omega) (by decide)
              refine X_iloadn hK (i := 3) 5 dX6_place_113 rfl rfl ?_
              refine X_aloadn hK (i := 0) 2 dX6_place_114 rfl rfl ?_
              refine X_getr hK 12100 64 fl_X6_15_7 hs_a0 sl_7_1 dX6_place_115 (fun b175 eb175 hs_b175 => ?_)
              refine X_iload hK (i := 7) 0 dX6_place_118 rfl ?_
              refine X_iald hK hs_b175 (by decide) sl_12100 (by omega) (by omega) dX6_place_120 (fun z176 ez176 lz176 uz176 => ?_)
              refine X_iadd hK dX6_place_121 ?_
              refine X_norm (fun z177 ez177 lz177 uz177 => ?_)
              refine X_lload hK (i := 4) 6 dX6_place_122 rfl ?_
              refine X_aloadn hK (i := 0) 2 dX6_place_124 rfl rfl ?_
              refine X_getr hK 12802 64 fl_X6_38_7 hs_a0 sl_7_8 dX6_place_125 (fun b178 eb178 hs_b178 => ?_)
              refine X_iload hK (i := 7) 0 dX6_place_128 rfl ?_
              refine X_lald hK hs_b178 (by decide) sl_12802 (by omega) (by omega) dX6_place_130 (fun y179 => ?_)
              refine X_lor hK dX6_place_131 (fun y180 => ?_)
              refine X_callV hK [.int (iI (x1 + 1)), .int (iI z174), .int (iI z177), .long y180] [] lk_X6_80 (c2_place_8 _ _ _ _ _ S g172 a0 (x1 + 1) z174 z177 y180 n0 w3 q137 hs_a0 (by omega) (by omega) (by omega) (by omega) ((xs_a hg172 (xne hs_a0 hs_b171 (by decide))).trans ((hg136 a0 7 0 0 hs_a0 (by decide)).trans en0)) ((xs_a hg172 (xne hs_a0 hs_b171 (by decide))).trans ((hg136 a0 7 0 3 hs_a0 (by decide)).trans ew3)) hs_w3 (by omega) ((xs_a hg172 (xne hs_a0 hs_b171 (by decide))).trans eq137) (by rw [(xv_a hg172 (xne hs_w3 hs_b171 (by decide)))]; exact v162)) hs_a0 ⟨by decide, rfl⟩ dX6_place_132 rfl rfl (by simp [Value.category]) (by decide) (by decide) (by decide) (by decide) (fun r181 S183 g182 pr181 qr181 hg182 => ?_)
              obtain ⟨rfl, rfl, k184, k185⟩ := pr181
              refine X_st [] rfl ?_
              obtain ⟨z186, ez186, lz186, uz186, kz186⟩ := k184
              refine X_iinc hK (i := 6) (z := z135) (n := 1) 1 [(6, .int (iI (z135 + 1))), (7, .int (iI ((x1 * 8) + z135))), (0, .ref a0), (1, .int (iI x1)), (2, .int (iI x2)), (3, .int (iI x3)), (4, .long y4)] dX6_place_135 rfl (by decide) rfl ?_
              refine X_goto hK 65 dX6_place_138 (by decide) ?_
              refine X_lv [(6, .int (iI (z135 + 1))), (0, .ref a0), (1, .int (iI x1)), (2, .int (iI x2)), (3, .int (iI x3)), (4, .long y4)] [0, 2, 3, 4, 5, 6] rfl ?_
              exact ihP161  g182 (xM.tr (xM_ua (xM.tr xM.rf xLe.rf hg136 (by decide)) hg172 hs_b171 (by decide) (by decide)) xLe.rf hg182 (by decide)) (z135 + 1) (by omega) (by omega) z186 (by omega) (by omega) ez186 kz186 (xFr.tr (xFr.t v163 hg172 hs_b171 (by decide)) k185) (by omega)
      exact P161 ((24 - 0 : Int).toNat + 1) g xM.rf 0 (by omega) (by omega) m0 (by omega) (by omega) em0 hp0 xFr.rf (by omega)
    · refine X_aloadn hK (i := 0) 0 dX6_place_24 rfl rfl ?_
      refine X_iloadn hK (i := 3) 3 dX6_place_25 rfl rfl ?_
      refine X_puti hK fl_X6_42_7 hs_a0 (by decide) sl_7_9 (by omega) (by omega) dX6_place_26 (fun g187 hg187 => ?_)
      refine X_iconst hK dX6_place_29 ?_
      refine X_istore hK (i := 6) [(6, .int (iI 0)), (0, .ref a0), (1, .int (iI x1)), (2, .int (iI x2)), (3, .int (iI x3)), (4, .long y4)] dX6_place_30 (by decide) rfl ?_
      have P223 : ∀ (nP223 : Nat) (g218 : xG) (_ : xM [(12300, 0)] S g187 g218) (z217 : Int) (_ : 0 ≤ z217) (_ : z217 ≤ 7) (_ : ∀ k, 0 ≤ k → k < z217 → 0 ≤ xv g218 w3 k) (_ : xFr 12300 S g g218 w3) (_ : 23 - z217 < (nP223 : Int)), X K E 32 [(6, .int (iI z217)), (0, .ref a0), (1, .int (iI x1)), (2, .int (iI x2)), (3, .int (iI x3)), (4, .long y4)] [] S g218 0 0 := by
        intro nP223
        induction nP223 with
        | zero => intro g218 hg218 z217 lz217 uz217 v224 v225 mP223; exact False.elim (by omega)
        | succ nP223 ihP223 =>
          intro g218 hg218 z217 lz217 uz217 v224 v225 mP223
          refine X_iload hK (i := 6) 0 dX6_place_32 rfl ?_
          refine X_aloadn hK (i := 0) 1 dX6_place_34 rfl rfl ?_
          refine X_getK hK fl_X6_9_7 hs_a0 ((hg218 a0 7 0 0 hs_a0 (by decide)).trans ((xs_k hg187 (by decide)).trans en0)) dX6_place_35 ?_
          refine X_icmp_ge hK 61 (by omega) (by omega) dX6_place_38 (by decide) (fun c226 => ?_) (fun c226 => ?_)
          · exact hret _ _ _ _ _ _ dX6_place_61 ⟨rfl, rfl, ⟨x3, ((hg218 a0 7 0 9 hs_a0 (by decide)).trans (xs_s hg187)), by omega, by omega, Or.inr (fun k q1 q2 => v224 k q1 (by omega))⟩, v225⟩ (Nat.le_refl _) (Nat.le_refl _)
          · refine X_aloadn hK (i := 0) 1 dX6_place_41 rfl rfl ?_
            refine X_getK hK fl_X6_22_7 hs_a0 ((hg218 a0 7 0 3 hs_a0 (by decide)).trans ((xs_k hg187 (by decide)).trans ew3)) dX6_place_42 ?_
            refine X_iload hK (i := 6) 0 dX6_place_45 rfl ?_
            refine X_aloadn hK (i := 0) 1 dX6_place_47 rfl rfl ?_
            refine X_getr hK 12500 8 fl_X6_28_7 hs_a0 sl_7_5 dX6_place_48 (fun b227 eb227 hs_b227 => ?_)
            refine X_iload hK (i := 6) 0 dX6_place_51 rfl ?_
            refine X_iald hK hs_b227 (by decide) sl_12500 (by omega) (by omega) dX6_place_53 (fun z228 ez228 lz228 uz228 => ?_)
            refine X_iast hK hs_w3 (by decide) (by decide) sl_12300 (by omega) (by omega) (by omega) (by omega) dX6_place_54 (fun g229 hg229 => ?_)
            refine X_iinc hK (i := 6) (z := z217) (n := 1) 0 [(6, .int (iI (z217 + 1))), (0, .ref a0), (1, .int (iI x1)), (2, .int (iI x2)), (3, .int (iI x3)), (4, .long y4)] dX6_place_55 rfl (by decide) rfl ?_
            refine X_goto hK 32 dX6_place_58 (by decide) ?_
            exact ihP223  g229 (xM_ua (xM.tr xM.rf xLe.rf hg218 (by decide)) hg229 hs_w3 (by decide) (by decide)) (z217 + 1) (by omega) (by omega) (xpre (P := fun x => 0 ≤ x) v224 (fun i9 hi9 h09 => (show xv g229 w3 i9 = xv g218 w3 i9 from by rw [(xv_k (i := i9) hg229 (by omega) (by omega) (by omega))])) (by rw [show xv g229 w3 z217 = _ from (show xv g229 w3 z217 = z228 from by rw [xv_s hg229 (by omega)])]; omega)) (xFr.w v225 hg229) (by omega)
      exact P223 ((23 - 0 : Int).toNat + 1) g187 xM.rf 0 (by omega) (by omega) (fun k q1 q2 => by omega) (xFr.t xFr.rf hg187 hs_a0 (by decide)) (by omega)
  · exact hret _ _ _ _ _ _ dX6_place_15 ⟨rfl, rfl, ⟨m0, em0, by omega, by omega, hp0⟩, xFr.rf⟩ (Nat.le_refl _) (Nat.le_refl _)

set_option maxHeartbeats 4000000 in
set_option maxRecDepth 100000 in
theorem c2_place_6 (l : Launch) (D : va_G) (kA : Nat → ClassId) (b0 : Nat) (t0 : Nat → Nat) (S : xT) (g : xG) (a0 : Nat) (x1 : Int) (x2 : Int) (x3 : Int) (y4 : Int64) (n0 : Int) (w3 : Nat) (m0 : Int) (hs_a0 : S a0 = some (7, 0)) (hx1 : 6 ≤ x1 ∧ x1 ≤ 6) (hx2 : 0 ≤ x2 ∧ x2 ≤ 255) (hx3 : (-2147483648) ≤ x3 ∧ x3 ≤ 2147483647) (hn0 : 6 ≤ n0 ∧ n0 ≤ 8) (en0 : g a0 0 = .int (iI n0)) (ew3 : g a0 3 = .ref w3) (hs_w3 : S w3 = some (12300, 8)) (hm0 : (-2147483648) ≤ m0 ∧ m0 ≤ 2147483647) (em0 : g a0 9 = .int (iI m0)) (hp0 : m0 = -1 ∨ xCo n0 (xv g w3)) : xMt l yX6_place cX6_place 8 none 2 0 0 54 D kA b0 t0 [(12500, 0), (7, 9), (12300, 0)] [.ref a0, .int (iI x1), .int (iI x2), .int (iI x3), .long y4] S g (fun (r : Option Value) (S1 : xT) (g1 : xG) => S = S1 ∧ r = none ∧ (∃ z9 : Int, g1 a0 9 = .int (iI z9) ∧ -2147483648 ≤ z9 ∧ z9 ≤ 2147483647 ∧ (z9 = -1 ∨ xCo n0 (xv g1 w3))) ∧ (xFr 12300 S g g1 w3)) := by
  refine xEnterV (by decide) (by simp [lg_sl, Value.category]) [(0, .ref a0), (1, .int (iI x1)), (2, .int (iI x2)), (3, .int (iI x3)), (4, .long y4)] rfl ?_
  intro K E hK hret _ _ _
  refine X_iloadn hK (i := 3) 3 dX6_place_0 rfl rfl ?_
  refine X_aloadn hK (i := 0) 0 dX6_place_1 rfl rfl ?_
  refine X_getr hK 12600 256 fl_X6_31_7 hs_a0 sl_7_6 dX6_place_2 (fun b1 eb1 hs_b1 => ?_)
  refine X_iloadn hK (i := 2) 2 dX6_place_5 rfl rfl ?_
  refine X_iald hK hs_b1 (by decide) sl_12600 (by omega) (by omega) dX6_place_6 (fun z2 ez2 lz2 uz2 => ?_)
  refine X_iadd hK dX6_place_7 ?_
  refine X_norm (fun z3 ez3 lz3 uz3 => ?_)
  refine X_aloadn hK (i := 0) 0 dX6_place_8 rfl rfl ?_
  refine X_getK hK fl_X6_42_7 hs_a0 em0 dX6_place_9 ?_
  refine X_icmp_gt hK 16 (by omega) (by omega) dX6_place_12 (by decide) (fun c4 => ?_) (fun c4 => ?_)
  · refine X_iloadn hK (i := 1) 1 dX6_place_16 rfl rfl ?_
    refine X_aloadn hK (i := 0) 0 dX6_place_17 rfl rfl ?_
    refine X_getK hK fl_X6_9_7 hs_a0 en0 dX6_place_18 ?_
    refine X_icmp_ne hK 62 (by omega) (by omega) dX6_place_21 (by decide) (fun c5 => ?_) (fun c5 => ?_)
    · refine X_iconst hK dX6_place_62 ?_
      refine X_istore hK (i := 6) [(6, .int (iI 0)), (0, .ref a0), (1, .int (iI x1)), (2, .int (iI x2)), (3, .int (iI x3)), (4, .long y4)] dX6_place_63 (by decide) rfl ?_
      have P161 : ∀ (nP161 : Nat) (g136 : xG) (_ : xM [(12500, 0), (7, 9), (12300, 0)] S g g136) (z135 : Int) (_ : 0 ≤ z135) (_ : z135 ≤ 8) (q137 : Int) (_ : (-2147483648) ≤ q137) (_ : q137 ≤ 2147483647) (_ : g136 a0 9 = .int (iI q137)) (_ : q137 = -1 ∨ xCo n0 (xv g136 w3)) (_ : xFr 12300 S g g136 w3) (_ : 24 - z135 < (nP161 : Int)), X K E 65 [(6, .int (iI z135)), (0, .ref a0), (1, .int (iI x1)), (2, .int (iI x2)), (3, .int (iI x3)), (4, .long y4)] [] S g136 0 0 := by
        intro nP161
        induction nP161 with
        | zero => intro g136 hg136 z135 lz135 uz135 q137 lq137 uq137 eq137 v162 v163 mP161; exact False.elim (by omega)
        | succ nP161 ihP161 =>
          intro g136 hg136 z135 lz135 uz135 q137 lq137 uq137 eq137 v162 v163 mP161
          refine X_iload hK (i := 6) 0 dX6_place_65 rfl ?_
          refine X_aloadn hK (i := 0) 1 dX6_place_67 rfl rfl ?_
          refine X_getK hK fl_X6_9_7 hs_a0 ((hg136 a0 7 0 0 hs_a0 (by decide)).trans en0) dX6_place_68 ?_
          refine X_icmp_ge hK 141 (by omega) (by omega) dX6_place_71 (by decide) (fun c164 => ?_) (fun c164 => ?_)
          · exact hret _ _ _ _ _ _ dX6_place_141 ⟨rfl, rfl, ⟨q137, eq137, by omega, by omega, v162⟩, v163⟩ (Nat.le_refl _) (Nat.le_refl _)
          · refine X_iloadn hK (i := 1) 2 dX6_place_74 rfl rfl ?_
            refine X_bipush hK dX6_place_75 (by decide) ?_
            refine X_imul hK dX6_place_77 ?_
            refine X_iload hK (i := 6) 0 dX6_place_78 rfl ?_
            refine X_iadd hK dX6_place_80 ?_
            refine X_istore hK (i := 7) [(7, .int (iI ((x1 * 8) + z135))), (6, .int (iI z135)), (0, .ref a0), (1, .int (iI x1)), (2, .int (iI x2)), (3, .int (iI x3)), (4, .long y4)] dX6_place_81 (by decide) rfl ?_
            refine X_lload hK (i := 4) 6 dX6_place_83 rfl ?_
            refine X_iload hK (i := 7) 0 dX6_place_85 rfl ?_
            refine X_lushr hK dX6_place_87 (fun y165 => ?_)
            refine X_lconst hK dX6_place_88 (fun y166 => ?_)
            refine X_land hK dX6_place_89 (fun y167 => ?_)
            refine X_lconst hK dX6_place_90 (fun y168 => ?_)
            refine X_lcmp hK dX6_place_91 (fun z169 lz169 uz169 => ?_)
            refine X_if_ne hK 135 (by omega) dX6_place_92 (by decide) (fun c170 => ?_) (fun c170 => ?_)
            · refine X_iinc hK (i := 6) (z := z135) (n := 1) 1 [(6, .int (iI (z135 + 1))), (7, .int (iI ((x1 * 8) + z135))), (0, .ref a0), (1, .int (iI x1)), (2, .int (iI x2)), (3, .int (iI x3)), (4, .long y4)] dX6_place_135 rfl (by decide) rfl ?_
              refine X_goto hK 65 dX6_place_138 (by decide) ?_
              refine X_lv [(6, .int (iI (z135 + 1))), (0, .ref a0), (1, .int (iI x1)), (2, .int (iI x2)), (3, .int (iI x3)), (4, .long y4)] [0, 2, 3, 4, 5, 6] rfl ?_
              exact ihP161  g136 (xM.tr xM.rf xLe.rf hg136 (by decide)) (z135 + 1) (by omega) (by omega) q137 (by omega) (by omega) eq137 v162 v163 (by omega)
            · refine X_aloadn hK (i := 0) 2 dX6_place_95 rfl rfl ?_
              refine X_getr hK 12500 8 fl_X6_28_7 hs_a0 sl_7_5 dX6_place_96 (fun b171 eb171 hs_b171 => ?_)
              refine X_iloadn hK (i := 1) 3 dX6_place_99 rfl rfl ?_
              refine X_iload hK (i := 6) 1 dX6_place_100 rfl ?_
              refine X_iast hK hs_b171 (by decide) (by decide) sl_12500 (by omega) (by omega) (by omega) (by omega) dX6_place_102 (fun g172 hg172 => ?_)
              refine X_aloadn hK (i := 0) 2 dX6_place_103 rfl rfl ?_
              refine X_iloadn hK (i := 1) 3 dX6_place_104 rfl rfl ?_
              refine X_iconst hK dX6_place_105 ?_
              refine X_iadd hK dX6_place_106 ?_
              refine X_iloadn hK (i := 2) 4 dX6_place_107 rfl rfl ?_
              refine X_iconst hK dX6_place_108 ?_
              refine X_iload hK (i := 6) 1 dX6_place_109 rfl ?_
              refine X_ishl hK dX6_place_111 (fun z173 ez173 lz173 uz173 => ?_)
              have bz173 := xshlB 7 ez173 ⟨lz173, uz173⟩ (by omega) (by decide)
              refine X_ior hK dX6_place_112 (fun z174 ez174 lz174 uz174 => ?_)
              have bz174 := xiorB 8 ez174 ⟨lz174, uz174⟩ (by omega) (by omega) (by decide)
              refine X_iloadn hK (i := 3) 5 dX6_place_113 rfl rfl ?_
              refine X_aloadn hK (i := 0) 2 dX6_place_114 rfl rfl ?_
              refine X_getr hK 12100 64 fl_X6_15_7 hs_a0 sl_7_1 dX6_place_115 (fun b175 eb175 hs_b175 => ?_)
              refine X_iload hK (i := 7) 0 dX6_place_118 rfl ?_
              refine X_iald hK hs_b175 (by decide) sl_12100 (by omega) (by omega) dX6_place_120 (fun z176 ez176 lz176 uz176 => ?_)
              refine X_iadd hK dX6_place_121 ?_
              refine X_norm (fun z177 ez177 lz177 uz177 => ?_)
              refine X_lload hK (i := 4) 6 dX6_place_122 rfl ?_
              refine X_aloadn hK (i := 0) 2 dX6_place_124 rfl rfl ?_
              refine X_getr hK 12802 64 fl_X6_38_7 hs_a0 sl_7_8 dX6_place_125 (fun b178 eb178 hs_b178 => ?_)
              refine X_iload hK (i := 7) 0 dX6_place_128 rfl ?_
              refine X_lald hK hs_b178 (by decide) sl_12802 (by omega) (by omega) dX6_place_130 (fun y179 => ?_)
              refine X_lor hK dX6_place_131 (fun y180 => ?_)
              refine X_callV hK [.int (iI (x1 + 1)), .int (iI z174), .int (iI z177), .long y180] [] lk_X6_80 (c2_place_7 _ _ _ _ _ S g172 a0 (x1 + 1) z174 z177 y180 n0 w3 q137 hs_a0 (by omega) (by omega) (by omega) (by omega) ((xs_a hg172 (xne hs_a0 hs_b171 (by decide))).trans ((hg136 a0 7 0 0 hs_a0 (by decide)).trans en0)) ((xs_a hg172 (xne hs_a0 hs_b171 (by decide))).trans ((hg136 a0 7 0 3 hs_a0 (by decide)).trans ew3)) hs_w3 (by omega) ((xs_a hg172 (xne hs_a0 hs_b171 (by decide))).trans eq137) (by rw [(xv_a hg172 (xne hs_w3 hs_b171 (by decide)))]; exact v162)) hs_a0 ⟨by decide, rfl⟩ dX6_place_132 rfl rfl (by simp [Value.category]) (by decide) (by decide) (by decide) (by decide) (fun r181 S183 g182 pr181 qr181 hg182 => ?_)
              obtain ⟨rfl, rfl, k184, k185⟩ := pr181
              refine X_st [] rfl ?_
              obtain ⟨z186, ez186, lz186, uz186, kz186⟩ := k184
              refine X_iinc hK (i := 6) (z := z135) (n := 1) 1 [(6, .int (iI (z135 + 1))), (7, .int (iI ((x1 * 8) + z135))), (0, .ref a0), (1, .int (iI x1)), (2, .int (iI x2)), (3, .int (iI x3)), (4, .long y4)] dX6_place_135 rfl (by decide) rfl ?_
              refine X_goto hK 65 dX6_place_138 (by decide) ?_
              refine X_lv [(6, .int (iI (z135 + 1))), (0, .ref a0), (1, .int (iI x1)), (2, .int (iI x2)), (3, .int (iI x3)), (4, .long y4)] [0, 2, 3, 4, 5, 6] rfl ?_
              exact ihP161  g182 (xM.tr (xM_ua (xM.tr xM.rf xLe.rf hg136 (by decide)) hg172 hs_b171 (by decide) (by decide)) xLe.rf hg182 (by decide)) (z135 + 1) (by omega) (by omega) z186 (by omega) (by omega) ez186 kz186 (xFr.tr (xFr.t v163 hg172 hs_b171 (by decide)) k185) (by omega)
      exact P161 ((24 - 0 : Int).toNat + 1) g xM.rf 0 (by omega) (by omega) m0 (by omega) (by omega) em0 hp0 xFr.rf (by omega)
    · refine X_aloadn hK (i := 0) 0 dX6_place_24 rfl rfl ?_
      refine X_iloadn hK (i := 3) 3 dX6_place_25 rfl rfl ?_
      refine X_puti hK fl_X6_42_7 hs_a0 (by decide) sl_7_9 (by omega) (by omega) dX6_place_26 (fun g187 hg187 => ?_)
      refine X_iconst hK dX6_place_29 ?_
      refine X_istore hK (i := 6) [(6, .int (iI 0)), (0, .ref a0), (1, .int (iI x1)), (2, .int (iI x2)), (3, .int (iI x3)), (4, .long y4)] dX6_place_30 (by decide) rfl ?_
      have P223 : ∀ (nP223 : Nat) (g218 : xG) (_ : xM [(12300, 0)] S g187 g218) (z217 : Int) (_ : 0 ≤ z217) (_ : z217 ≤ 6) (_ : ∀ k, 0 ≤ k → k < z217 → 0 ≤ xv g218 w3 k) (_ : xFr 12300 S g g218 w3) (_ : 22 - z217 < (nP223 : Int)), X K E 32 [(6, .int (iI z217)), (0, .ref a0), (1, .int (iI x1)), (2, .int (iI x2)), (3, .int (iI x3)), (4, .long y4)] [] S g218 0 0 := by
        intro nP223
        induction nP223 with
        | zero => intro g218 hg218 z217 lz217 uz217 v224 v225 mP223; exact False.elim (by omega)
        | succ nP223 ihP223 =>
          intro g218 hg218 z217 lz217 uz217 v224 v225 mP223
          refine X_iload hK (i := 6) 0 dX6_place_32 rfl ?_
          refine X_aloadn hK (i := 0) 1 dX6_place_34 rfl rfl ?_
          refine X_getK hK fl_X6_9_7 hs_a0 ((hg218 a0 7 0 0 hs_a0 (by decide)).trans ((xs_k hg187 (by decide)).trans en0)) dX6_place_35 ?_
          refine X_icmp_ge hK 61 (by omega) (by omega) dX6_place_38 (by decide) (fun c226 => ?_) (fun c226 => ?_)
          · exact hret _ _ _ _ _ _ dX6_place_61 ⟨rfl, rfl, ⟨x3, ((hg218 a0 7 0 9 hs_a0 (by decide)).trans (xs_s hg187)), by omega, by omega, Or.inr (fun k q1 q2 => v224 k q1 (by omega))⟩, v225⟩ (Nat.le_refl _) (Nat.le_refl _)
          · refine X_aloadn hK (i := 0) 1 dX6_place_41 rfl rfl ?_
            refine X_getK hK fl_X6_22_7 hs_a0 ((hg218 a0 7 0 3 hs_a0 (by decide)).trans ((xs_k hg187 (by decide)).trans ew3)) dX6_place_42 ?_
            refine X_iload hK (i := 6) 0 dX6_place_45 rfl ?_
            refine X_aloadn hK (i := 0) 1 dX6_place_47 rfl rfl ?_
            refine X_getr hK 12500 8 fl_X6_28_7 hs_a0 sl_7_5 dX6_place_48 (fun b227 eb227 hs_b227 => ?_)
            refine X_iload hK (i := 6) 0 dX6_place_51 rfl ?_
            refine X_iald hK hs_b227 (by decide) sl_12500 (by omega) (by omega) dX6_place_53 (fun z228 ez228 lz228 uz228 => ?_)
            refine X_iast hK hs_w3 (by decide) (by decide) sl_12300 (by omega) (by omega) (by omega) (by omega) dX6_place_54 (fun g229 hg229 => ?_)
            refine X_iinc hK (i := 6) (z := z217) (n := 1) 0 [(6, .int (iI (z217 + 1))), (0, .ref a0), (1, .int (iI x1)), (2, .int (iI x2)), (3, .int (iI x3)), (4, .long y4)] dX6_place_55 rfl (by decide) rfl ?_
            refine X_goto hK 32 dX6_place_58 (by decide) ?_
            exact ihP223  g229 (xM_ua (xM.tr xM.rf xLe.rf hg218 (by decide)) hg229 hs_w3 (by decide) (by decide)) (z217 + 1) (by omega) (by omega) (xpre (P := fun x => 0 ≤ x) v224 (fun i9 hi9 h09 => (show xv g229 w3 i9 = xv g218 w3 i9 from by rw [(xv_k (i := i9) hg229 (by omega) (by omega) (by omega))])) (by rw [show xv g229 w3 z217 = _ from (show xv g229 w3 z217 = z228 from by rw [xv_s hg229 (by omega)])]; omega)) (xFr.w v225 hg229) (by omega)
      exact P223 ((22 - 0 : Int).toNat + 1) g187 xM.rf 0 (by omega) (by omega) (fun k q1 q2 => by omega) (xFr.t xFr.rf hg187 hs_a0 (by decide)) (by omega)
  · exact hret _ _ _ _ _ _ dX6_place_15 ⟨rfl, rfl, ⟨m0, em0, by omega, by omega, hp0⟩, xFr.rf⟩ (Nat.le_refl _) (Nat.le_refl _)

set_option maxHeartbeats 4000000 in
set_option maxRecDepth 100000 in
theorem c2_place_5 (l : Launch) (D : va_G) (kA : Nat → ClassId) (b0 : Nat) (t0 : Nat → Nat) (S : xT) (g : xG) (a0 : Nat) (x1 : Int) (x2 : Int) (x3 : Int) (y4 : Int64) (n0 : Int) (w3 : Nat) (m0 : Int) (hs_a0 : S a0 = some (7, 0)) (hx1 : 5 ≤ x1 ∧ x1 ≤ 5) (hx2 : 0 ≤ x2 ∧ x2 ≤ 255) (hx3 : (-2147483648) ≤ x3 ∧ x3 ≤ 2147483647) (hn0 : 5 ≤ n0 ∧ n0 ≤ 8) (en0 : g a0 0 = .int (iI n0)) (ew3 : g a0 3 = .ref w3) (hs_w3 : S w3 = some (12300, 8)) (hm0 : (-2147483648) ≤ m0 ∧ m0 ≤ 2147483647) (em0 : g a0 9 = .int (iI m0)) (hp0 : m0 = -1 ∨ xCo n0 (xv g w3)) : xMt l yX6_place cX6_place 8 none 3 0 0 81 D kA b0 t0 [(12500, 0), (7, 9), (12300, 0)] [.ref a0, .int (iI x1), .int (iI x2), .int (iI x3), .long y4] S g (fun (r : Option Value) (S1 : xT) (g1 : xG) => S = S1 ∧ r = none ∧ (∃ z9 : Int, g1 a0 9 = .int (iI z9) ∧ -2147483648 ≤ z9 ∧ z9 ≤ 2147483647 ∧ (z9 = -1 ∨ xCo n0 (xv g1 w3))) ∧ (xFr 12300 S g g1 w3)) := by
  refine xEnterV (by decide) (by simp [lg_sl, Value.category]) [(0, .ref a0), (1, .int (iI x1)), (2, .int (iI x2)), (3, .int (iI x3)), (4, .long y4)] rfl ?_
  intro K E hK hret _ _ _
  refine X_iloadn hK (i := 3) 3 dX6_place_0 rfl rfl ?_
  refine X_aloadn hK (i := 0) 0 dX6_place_1 rfl rfl ?_
  refine X_getr hK 12600 256 fl_X6_31_7 hs_a0 sl_7_6 dX6_place_2 (fun b1 eb1 hs_b1 => ?_)
  refine X_iloadn hK (i := 2) 2 dX6_place_5 rfl rfl ?_
  refine X_iald hK hs_b1 (by decide) sl_12600 (by omega) (by omega) dX6_place_6 (fun z2 ez2 lz2 uz2 => ?_)
  refine X_iadd hK dX6_place_7 ?_
  refine X_norm (fun z3 ez3 lz3 uz3 => ?_)
  refine X_aloadn hK (i := 0) 0 dX6_place_8 rfl rfl ?_
  refine X_getK hK fl_X6_42_7 hs_a0 em0 dX6_place_9 ?_
  refine X_icmp_gt hK 16 (by omega) (by omega) dX6_place_12 (by decide) (fun c4 => ?_) (fun c4 => ?_)
  · refine X_iloadn hK (i := 1) 1 dX6_place_16 rfl rfl ?_
    refine X_aloadn hK (i := 0) 0 dX6_place_17 rfl rfl ?_
    refine X_getK hK fl_X6_9_7 hs_a0 en0 dX6_place_18 ?_
    refine X_icmp_ne hK 62 (by omega) (by omega) dX6_place_21 (by decide) (fun c5 => ?_) (fun c5 => ?_)
    · refine X_iconst hK dX6_place_62 ?_
      refine X_istore hK (i := 6) [(6, .int (iI 0)), (0, .ref a0), (1, .int (iI x1)), (2, .int (iI x2)), (3, .int (iI x3)), (4, .long y4)] dX6_place_63 (by decide) rfl ?_
      have P161 : ∀ (nP161 : Nat) (g136 : xG) (_ : xM [(12500, 0), (7, 9), (12300, 0)] S g g136) (z135 : Int) (_ : 0 ≤ z135) (_ : z135 ≤ 8) (q137 : Int) (_ : (-2147483648) ≤ q137) (_ : q137 ≤ 2147483647) (_ : g136 a0 9 = .int (iI q137)) (_ : q137 = -1 ∨ xCo n0 (xv g136 w3)) (_ : xFr 12300 S g g136 w3) (_ : 24 - z135 < (nP161 : Int)), X K E 65 [(6, .int (iI z135)), (0, .ref a0), (1, .int (iI x1)), (2, .int (iI x2)), (3, .int (iI x3)), (4, .long y4)] [] S g136 0 0 := by
        intro nP161
        induction nP161 with
        | zero => intro g136 hg136 z135 lz135 uz135 q137 lq137 uq137 eq137 v162 v163 mP161; exact False.elim (by omega)
        | succ nP161 ihP161 =>
          intro g136 hg136 z135 lz135 uz135 q137 lq137 uq137 eq137 v162 v163 mP161
          refine X_iload hK (i := 6) 0 dX6_place_65 rfl ?_
          refine X_aloadn hK (i := 0) 1 dX6_place_67 rfl rfl ?_
          refine X_getK hK fl_X6_9_7 hs_a0 ((hg136 a0 7 0 0 hs_a0 (by decide)).trans en0) dX6_place_68 ?_
          refine X_icmp_ge hK 141 (by omega) (by omega) dX6_place_71 (by decide) (fun c164 => ?_) (fun c164 => ?_)
          · exact hret _ _ _ _ _ _ dX6_place_141 ⟨rfl, rfl, ⟨q137, eq137, by omega, by omega, v162⟩, v163⟩ (Nat.le_refl _) (Nat.le_refl _)
          · refine X_iloadn hK (i := 1) 2 dX6_place_74 rfl rfl ?_
            refine X_bipush hK dX6_place_75 (by decide) ?_
            refine X_imul hK dX6_place_77 ?_
            refine X_iload hK (i := 6) 0 dX6_place_78 rfl ?_
            refine X_iadd hK dX6_place_80 ?_
            refine X_istore hK (i := 7) [(7, .int (iI ((x1 * 8) + z135))), (6, .int (iI z135)), (0, .ref a0), (1, .int (iI x1)), (2, .int (iI x2)), (3, .int (iI x3)), (4, .long y4)] dX6_place_81 (by decide) rfl ?_
            refine X_lload hK (i := 4) 6 dX6_place_83 rfl ?_
            refine X_iload hK (i := 7) 0 dX6_place_85 rfl ?_
            refine X_lushr hK dX6_place_87 (fun y165 => ?_)
            refine X_lconst hK dX6_place_88 (fun y166 => ?_)
            refine X_land hK dX6_place_89 (fun y167 => ?_)
            refine X_lconst hK dX6_place_90 (fun y168 => ?_)
            refine X_lcmp hK dX6_place_91 (fun z169 lz169 uz169 => ?_)
            refine X_if_ne hK 135 (by omega) dX6_place_92 (by decide) (fun c170 => ?_) (fun c170 => ?_)
            · refine X_iinc hK (i := 6) (z := z135) (n := 1) 1 [(6, .int (iI (z135 + 1))), (7, .int (iI ((x1 * 8) + z135))), (0, .ref a0), (1, .int (iI x1)), (2, .int (iI x2)), (3, .int (iI x3)), (4, .long y4)] dX6_place_135 rfl (by decide) rfl ?_
              refine X_goto hK 65 dX6_place_138 (by decide) ?_
              refine X_lv [(6, .int (iI (z135 + 1))), (0, .ref a0), (1, .int (iI x1)), (2, .int (iI x2)), (3, .int (iI x3)), (4, .long y4)] [0, 2, 3, 4, 5, 6] rfl ?_
              exact ihP161  g136 (xM.tr xM.rf xLe.rf hg136 (by decide)) (z135 + 1) (by omega) (by omega) q137 (by omega) (by omega) eq137 v162 v163 (by omega)
            · refine X_aloadn hK (i := 0) 2 dX6_place_95 rfl rfl ?_
              refine X_getr hK 12500 8 fl_X6_28_7 hs_a0 sl_7_5 dX6_place_96 (fun b171 eb171 hs_b171 => ?_)
              refine X_iloadn hK (i := 1) 3 dX6_place_99 rfl rfl ?_
              refine X_iload hK (i := 6) 1 dX6_place_100 rfl ?_
              refine X_iast hK hs_b171 (by decide) (by decide) sl_12500 (by omega) (by omega) (by omega) (by omega) dX6_place_102 (fun g172 hg172 => ?_)
              refine X_aloadn hK (i := 0) 2 dX6_place_103 rfl rfl ?_
              refine X_iloadn hK (i := 1) 3 dX6_place_104 rfl rfl ?_
              refine X_iconst hK dX6_place_105 ?_
              refine X_iadd hK dX6_place_106 ?_
              refine X_iloadn hK (i := 2) 4 dX6_place_107 rfl rfl ?_
              refine X_iconst hK dX6_place_108 ?_
              refine X_iload hK (i := 6) 1 dX6_place_109 rfl ?_
              refine X_ishl hK dX6_place_111 (fun z173 ez173 lz173 uz173 => ?_)
              have bz173 := xshlB 7 ez173 ⟨lz173, uz173⟩ (by omega) (by decide)
              refine X_ior hK dX6_place_112 (fun z174 ez174 lz174 uz174 => ?_)
              have bz174 := xiorB 8 ez174 ⟨lz174, uz174⟩ (by omega) (by omega) (by decide)
              refine X_iloadn hK (i := 3) 5 dX6_place_113 rfl rfl ?_
              refine X_aloadn hK (i := 0) 2 dX6_place_114 rfl rfl ?_
              refine X_getr hK 12100 64 fl_X6_15_7 hs_a0 sl_7_1 dX6_place_115 (fun b175 eb175 hs_b175 => ?_)
              refine X_iload hK (i := 7) 0 dX6_place_118 rfl ?_
              refine X_iald hK hs_b175 (by decide) sl_12100 (by omega) (by omega) dX6_place_120 (fun z176 ez176 lz176 uz176 => ?_)
              refine X_iadd hK dX6_place_121 ?_
              refine X_norm (fun z177 ez177 lz177 uz177 => ?_)
              refine X_lload hK (i := 4) 6 dX6_place_122 rfl ?_
              refine X_aloadn hK (i := 0) 2 dX6_place_124 rfl rfl ?_
              refine X_getr hK 12802 64 fl_X6_38_7 hs_a0 sl_7_8 dX6_place_125 (fun b178 eb178 hs_b178 => ?_)
              refine X_iload hK (i := 7) 0 dX6_place_128 rfl ?_
              refine X_lald hK hs_b178 (by decide) sl_12802 (by omega) (by omega) dX6_place_130 (fun y179 => ?_)
              refine X_lor hK dX6_place_131 (fun y180 => ?_)
              refine X_callV hK [.int (iI (x1 + 1)), .int (iI z174), .int (iI z177), .long y180] [] lk_X6_80 (c2_place_6 _ _ _ _ _ S g172 a0 (x1 + 1) z174 z177 y180 n0 w3 q137 hs_a0 (by omega) (by omega) (by omega) (by omega) ((xs_a hg172 (xne hs_a0 hs_b171 (by decide))).trans ((hg136 a0 7 0 0 hs_a0 (by decide)).trans en0)) ((xs_a hg172 (xne hs_a0 hs_b171 (by decide))).trans ((hg136 a0 7 0 3 hs_a0 (by decide)).trans ew3)) hs_w3 (by omega) ((xs_a hg172 (xne hs_a0 hs_b171 (by decide))).trans eq137) (by rw [(xv_a hg172 (xne hs_w3 hs_b171 (by decide)))]; exact v162)) hs_a0 ⟨by decide, rfl⟩ dX6_place_132 rfl rfl (by simp [Value.category]) (by decide) (by decide) (by decide) (by decide) (fun r181 S183 g182 pr181 qr181 hg182 => ?_)
              obtain ⟨rfl, rfl, k184, k185⟩ := pr181
              refine X_st [] rfl ?_
              obtain ⟨z186, ez186, lz186, uz186, kz186⟩ := k184
              refine X_iinc hK (i := 6) (z := z135) (n := 1) 1 [(6, .int (iI (z135 + 1))), (7, .int (iI ((x1 * 8) + z135))), (0, .ref a0), (1, .int (iI x1)), (2, .int (iI x2)), (3, .int (iI x3)), (4, .long y4)] dX6_place_135 rfl (by decide) rfl ?_
              refine X_goto hK 65 dX6_place_138 (by decide) ?_
              refine X_lv [(6, .int (iI (z135 + 1))), (0, .ref a0), (1, .int (iI x1)), (2, .int (iI x2)), (3, .int (iI x3)), (4, .long y4)] [0, 2, 3, 4, 5, 6] rfl ?_
              exact ihP161  g182 (xM.tr (xM_ua (xM.tr xM.rf xLe.rf hg136 (by decide)) hg172 hs_b171 (by decide) (by decide)) xLe.rf hg182 (by decide)) (z135 + 1) (by omega) (by omega) z186 (by omega) (by omega) ez186 kz186 (xFr.tr (xFr.t v163 hg172 hs_b171 (by decide)) k185) (by omega)
      exact P161 ((24 - 0 : Int).toNat + 1) g xM.rf 0 (by omega) (by omega) m0 (by omega) (by omega) em0 hp0 xFr.rf (by omega)
    · refine X_aloadn hK (i := 0) 0 dX6_place_24 rfl rfl ?_
      refine X_iloadn hK (i := 3) 3 dX6_place_25 rfl rfl ?_
      refine X_puti hK fl_X6_42_7 hs_a0 (by decide) sl_7_9 (by omega) (by omega) dX6_place_26 (fun g187 hg187 => ?_)
      refine X_iconst hK dX6_place_29 ?_
      refine X_istore hK (i := 6) [(6, .int (iI 0)), (0, .ref a0), (1, .int (iI x1)), (2, .int (iI x2)), (3, .int (iI x3)), (4, .long y4)] dX6_place_30 (by decide) rfl ?_
      have P223 : ∀ (nP223 : Nat) (g218 : xG) (_ : xM [(12300, 0)] S g187 g218) (z217 : Int) (_ : 0 ≤ z217) (_ : z217 ≤ 5) (_ : ∀ k, 0 ≤ k → k < z217 → 0 ≤ xv g218 w3 k) (_ : xFr 12300 S g g218 w3) (_ : 21 - z217 < (nP223 : Int)), X K E 32 [(6, .int (iI z217)), (0, .ref a0), (1, .int (iI x1)), (2, .int (iI x2)), (3, .int (iI x3)), (4, .long y4)] [] S g218 0 0 := by
        intro nP223
        induction nP223 with
        | zero => intro g218 hg218 z217 lz217 uz217 v224 v225 mP223; exact False.elim (by omega)
        | succ nP223 ihP223 =>
          intro g218 hg218 z217 lz217 uz217 v224 v225 mP223
          refine X_iload hK (i := 6) 0 dX6_place_32 rfl ?_
          refine X_aloadn hK (i := 0) 1 dX6_place_34 rfl rfl ?_
          refine X_getK hK fl_X6_9_7 hs_a0 ((hg218 a0 7 0 0 hs_a0 (by decide)).trans ((xs_k hg187 (by decide)).trans en0)) dX6_place_35 ?_
          refine X_icmp_ge hK 61 (by omega) (by omega) dX6_place_38 (by decide) (fun c226 => ?_) (fun c226 => ?_)
          · exact hret _ _ _ _ _ _ dX6_place_61 ⟨rfl, rfl, ⟨x3, ((hg218 a0 7 0 9 hs_a0 (by decide)).trans (xs_s hg187)), by omega, by omega, Or.inr (fun k q1 q2 => v224 k q1 (by omega))⟩, v225⟩ (Nat.le_refl _) (Nat.le_refl _)
          · refine X_aloadn hK (i := 0) 1 dX6_place_41 rfl rfl ?_
            refine X_getK hK fl_X6_22_7 hs_a0 ((hg218 a0 7 0 3 hs_a0 (by decide)).trans ((xs_k hg187 (by decide)).trans ew3)) dX6_place_42 ?_
            refine X_iload hK (i := 6) 0 dX6_place_45 rfl ?_
            refine X_aloadn hK (i := 0) 1 dX6_place_47 rfl rfl ?_
            refine X_getr hK 12500 8 fl_X6_28_7 hs_a0 sl_7_5 dX6_place_48 (fun b227 eb227 hs_b227 => ?_)
            refine X_iload hK (i := 6) 0 dX6_place_51 rfl ?_
            refine X_iald hK hs_b227 (by decide) sl_12500 (by omega) (by omega) dX6_place_53 (fun z228 ez228 lz228 uz228 => ?_)
            refine X_iast hK hs_w3 (by decide) (by decide) sl_12300 (by omega) (by omega) (by omega) (by omega) dX6_place_54 (fun g229 hg229 => ?_)
            refine X_iinc hK (i := 6) (z := z217) (n := 1) 0 [(6, .int (iI (z217 + 1))), (0, .ref a0), (1, .int (iI x1)), (2, .int (iI x2)), (3, .int (iI x3)), (4, .long y4)] dX6_place_55 rfl (by decide) rfl ?_
            refine X_goto hK 32 dX6_place_58 (by decide) ?_
            exact ihP223  g229 (xM_ua (xM.tr xM.rf xLe.rf hg218 (by decide)) hg229 hs_w3 (by decide) (by decide)) (z217 + 1) (by omega) (by omega) (xpre (P := fun x => 0 ≤ x) v224 (fun i9 hi9 h09 => (show xv g229 w3 i9 = xv g218 w3 i9 from by rw [(xv_k (i := i9) hg229 (by omega) (by omega) (by omega))])) (by rw [show xv g229 w3 z217 = _ from (show xv g229 w3 z217 = z228 from by rw [xv_s hg229 (by omega)])]; omega)) (xFr.w v225 hg229) (by omega)
      exact P223 ((21 - 0 : Int).toNat + 1) g187 xM.rf 0 (by omega) (by omega) (fun k q1 q2 => by omega) (xFr.t xFr.rf hg187 hs_a0 (by decide)) (by omega)
  · exact hret _ _ _ _ _ _ dX6_place_15 ⟨rfl, rfl, ⟨m0, em0, by omega, by omega, hp0⟩, xFr.rf⟩ (Nat.le_refl _) (Nat.le_refl _)

set_option maxHeartbeats 4000000 in
set_option maxRecDepth 100000 in
theorem c2_place_4 (l : Launch) (D : va_G) (kA : Nat → ClassId) (b0 : Nat) (t0 : Nat → Nat) (S : xT) (g : xG) (a0 : Nat) (x1 : Int) (x2 : Int) (x3 : Int) (y4 : Int64) (n0 : Int) (w3 : Nat) (m0 : Int) (hs_a0 : S a0 = some (7, 0)) (hx1 : 4 ≤ x1 ∧ x1 ≤ 4) (hx2 : 0 ≤ x2 ∧ x2 ≤ 255) (hx3 : (-2147483648) ≤ x3 ∧ x3 ≤ 2147483647) (hn0 : 4 ≤ n0 ∧ n0 ≤ 8) (en0 : g a0 0 = .int (iI n0)) (ew3 : g a0 3 = .ref w3) (hs_w3 : S w3 = some (12300, 8)) (hm0 : (-2147483648) ≤ m0 ∧ m0 ≤ 2147483647) (em0 : g a0 9 = .int (iI m0)) (hp0 : m0 = -1 ∨ xCo n0 (xv g w3)) : xMt l yX6_place cX6_place 8 none 4 0 0 108 D kA b0 t0 [(12500, 0), (7, 9), (12300, 0)] [.ref a0, .int (iI x1), .int (iI x2), .int (iI x3), .long y4] S g (fun (r : Option Value) (S1 : xT) (g1 : xG) => S = S1 ∧ r = none ∧ (∃ z9 : Int, g1 a0 9 = .int (iI z9) ∧ -2147483648 ≤ z9 ∧ z9 ≤ 2147483647 ∧ (z9 = -1 ∨ xCo n0 (xv g1 w3))) ∧ (xFr 12300 S g g1 w3)) := by
  refine xEnterV (by decide) (by simp [lg_sl, Value.category]) [(0, .ref a0), (1, .int (iI x1)), (2, .int (iI x2)), (3, .int (iI x3)), (4, .long y4)] rfl ?_
  intro K E hK hret _ _ _
  refine X_iloadn hK (i := 3) 3 dX6_place_0 rfl rfl ?_
  refine X_aloadn hK (i := 0) 0 dX6_place_1 rfl rfl ?_
  refine X_getr hK 12600 256 fl_X6_31_7 hs_a0 sl_7_6 dX6_place_2 (fun b1 eb1 hs_b1 => ?_)
  refine X_iloadn hK (i := 2) 2 dX6_place_5 rfl rfl ?_
  refine X_iald hK hs_b1 (by decide) sl_12600 (by omega) (by omega) dX6_place_6 (fun z2 ez2 lz2 uz2 => ?_)
  refine X_iadd hK dX6_place_7 ?_
  refine X_norm (fun z3 ez3 lz3 uz3 => ?_)
  refine X_aloadn hK (i := 0) 0 dX6_place_8 rfl rfl ?_
  refine X_getK hK fl_X6_42_7 hs_a0 em0 dX6_place_9 ?_
  refine X_icmp_gt hK 16 (by omega) (by omega) dX6_place_12 (by decide) (fun c4 => ?_) (fun c4 => ?_)
  · refine X_iloadn hK (i := 1) 1 dX6_place_16 rfl rfl ?_
    refine X_aloadn hK (i := 0) 0 dX6_place_17 rfl rfl ?_
    refine X_getK hK fl_X6_9_7 hs_a0 en0 dX6_place_18 ?_
    refine X_icmp_ne hK 62 (by omega) (by omega) dX6_place_21 (by decide) (fun c5 => ?_) (fun c5 => ?_)
    · refine X_iconst hK dX6_place_62 ?_
      refine X_istore hK (i := 6) [(6, .int (iI 0)), (0, .ref a0), (1, .int (iI x1)), (2, .int (iI x2)), (3, .int (iI x3)), (4, .long y4)] dX6_place_63 (by decide) rfl ?_
      have P161 : ∀ (nP161 : Nat) (g136 : xG) (_ : xM [(12500, 0), (7, 9), (12300, 0)] S g g136) (z135 : Int) (_ : 0 ≤ z135) (_ : z135 ≤ 8) (q137 : Int) (_ : (-2147483648) ≤ q137) (_ : q137 ≤ 2147483647) (_ : g136 a0 9 = .int (iI q137)) (_ : q137 = -1 ∨ xCo n0 (xv g136 w3)) (_ : xFr 12300 S g g136 w3) (_ : 24 - z135 < (nP161 : Int)), X K E 65 [(6, .int (iI z135)), (0, .ref a0), (1, .int (iI x1)), (2, .int (iI x2)), (3, .int (iI x3)), (4, .long y4)] [] S g136 0 0 := by
        intro nP161
        induction nP161 with
        | zero => intro g136 hg136 z135 lz135 uz135 q137 lq137 uq137 eq137 v162 v163 mP161; exact False.elim (by omega)
        | succ nP161 ihP161 =>
          intro g136 hg136 z135 lz135 uz135 q137 lq137 uq137 eq137 v162 v163 mP161
          refine X_iload hK (i := 6) 0 dX6_place_65 rfl ?_
          refine X_aloadn hK (i := 0) 1 dX6_place_67 rfl rfl ?_
          refine X_getK hK fl_X6_9_7 hs_a0 ((hg136 a0 7 0 0 hs_a0 (by decide)).trans en0) dX6_place_68 ?_
          refine X_icmp_ge hK 141 (by omega) (by omega) dX6_place_71 (by decide) (fun c164 => ?_) (fun c164 => ?_)
          · exact hret _ _ _ _ _ _ dX6_place_141 ⟨rfl, rfl, ⟨q137, eq137, by omega, by omega, v162⟩, v163⟩ (Nat.le_refl _) (Nat.le_refl _)
          · refine X_iloadn hK (i := 1) 2 dX6_place_74 rfl rfl ?_
            refine X_bipush hK dX6_place_75 (by decide) ?_
            refine X_imul hK dX6_place_77 ?_
            refine X_iload hK (i := 6) 0 dX6_place_78 rfl ?_
            refine X_iadd hK dX6_place_80 ?_
            refine X_istore hK (i := 7) [(7, .int (iI ((x1 * 8) + z135))), (6, .int (iI z135)), (0, .ref a0), (1, .int (iI x1)), (2, .int (iI x2)), (3, .int (iI x3)), (4, .long y4)] dX6_place_81 (by decide) rfl ?_
            refine X_lload hK (i := 4) 6 dX6_place_83 rfl ?_
            refine X_iload hK (i := 7) 0 dX6_place_85 rfl ?_
            refine X_lushr hK dX6_place_87 (fun y165 => ?_)
            refine X_lconst hK dX6_place_88 (fun y166 => ?_)
            refine X_land hK dX6_place_89 (fun y167 => ?_)
            refine X_lconst hK dX6_place_90 (fun y168 => ?_)
            refine X_lcmp hK dX6_place_91 (fun z169 lz169 uz169 => ?_)
            refine X_if_ne hK 135 (by omega) dX6_place_92 (by decide) (fun c170 => ?_) (fun c170 => ?_)
            · refine X_iinc hK (i := 6) (z := z135) (n := 1) 1 [(6, .int (iI (z135 + 1))), (7, .int (iI ((x1 * 8) + z135))), (0, .ref a0), (1, .int (iI x1)), (2, .int (iI x2)), (3, .int (iI x3)), (4, .long y4)] dX6_place_135 rfl (by decide) rfl ?_
              refine X_goto hK 65 dX6_place_138 (by decide) ?_
              refine X_lv [(6, .int (iI (z135 + 1))), (0, .ref a0), (1, .int (iI x1)), (2, .int (iI x2)), (3, .int (iI x3)), (4, .long y4)] [0, 2, 3, 4, 5, 6] rfl ?_
              exact ihP161  g136 (xM.tr xM.rf xLe.rf hg136 (by decide)) (z135 + 1) (by omega) (by omega) q137 (by omega) (by omega) eq137 v162 v163 (by omega)
            · refine X_aloadn hK (i := 0) 2 dX6_place_95 rfl rfl ?_
              refine X_getr hK 12500 8 fl_X6_28_7 hs_a0 sl_7_5 dX6_place_96 (fun b171 eb171 hs_b171 => ?_)
              refine X_iloadn hK (i := 1) 3 dX6_place_99 rfl rfl ?_
              refine X_iload hK (i := 6) 1 dX6_place_100 rfl ?_
              refine X_iast hK hs_b171 (by decide) (by decide) sl_12500 (by omega) (by omega) (by omega) (by omega) dX6_place_102 (fun g172 hg172 => ?_)
              refine X_aloadn hK (i := 0) 2 dX6_place_103 rfl rfl ?_
              refine X_iloadn hK (i := 1) 3 dX6_place_104 rfl rfl ?_
              refine X_iconst hK dX6_place_105 ?_
              refine X_iadd hK dX6_place_106 ?_
              refine X_iloadn hK (i := 2) 4 dX6_place_107 rfl rfl ?_
              refine X_iconst hK dX6_place_108 ?_
              refine X_iload hK (i := 6) 1 dX6_place_109 rfl ?_
              refine X_ishl hK dX6_place_111 (fun z173 ez173 lz173 uz173 => ?_)
              have bz173 := xshlB 7 ez173 ⟨lz173, uz173⟩ (by omega) (by decide)
              refine X_ior hK dX6_place_112 (fun z174 ez174 lz174 uz174 => ?_)
              have bz174 := xiorB 8 ez174 ⟨lz174, uz174⟩ (by omega) (by omega) (by decide)
              refine X_iloadn hK (i := 3) 5 dX6_place_113 rfl rfl ?_
              refine X_aloadn hK (i := 0) 2 dX6_place_114 rfl rfl ?_
              refine X_getr hK 12100 64 fl_X6_15_7 hs_a0 sl_7_1 dX6_place_115 (fun b175 eb175 hs_b175 => ?_)
              refine X_iload hK (i := 7) 0 dX6_place_118 rfl ?_
              refine X_iald hK hs_b175 (by decide) sl_12100 (by omega) (by omega) dX6_place_120 (fun z176 ez176 lz176 uz176 => ?_)
              refine X_iadd hK dX6_place_121 ?_
              refine X_norm (fun z177 ez177 lz177 uz177 => ?_)
              refine X_lload hK (i := 4) 6 dX6_place_122 rfl ?_
              refine X_aloadn hK (i := 0) 2 dX6_place_124 rfl rfl ?_
              refine X_getr hK 12802 64 fl_X6_38_7 hs_a0 sl_7_8 dX6_place_125 (fun b178 eb178 hs_b178 => ?_)
              refine X_iload hK (i := 7) 0 dX6_place_128 rfl ?_
              refine X_lald hK hs_b178 (by decide) sl_12802 (by omega) (by omega) dX6_place_130 (fun y179 => ?_)
              refine X_lor hK dX6_place_131 (fun y180 => ?_)
              refine X_callV hK [.int (iI (x1 + 1)), .int (iI z174), .int (iI z177), .long y180] [] lk_X6_80 (c2_place_5 _ _ _ _ _ S g172 a0 (x1 + 1) z174 z177 y180 n0 w3 q137 hs_a0 (by omega) (by omega) (by omega) (by omega) ((xs_a hg172 (xne hs_a0 hs_b171 (by decide))).trans ((hg136 a0 7 0 0 hs_a0 (by decide)).trans en0)) ((xs_a hg172 (xne hs_a0 hs_b171 (by decide))).trans ((hg136 a0 7 0 3 hs_a0 (by decide)).trans ew3)) hs_w3 (by omega) ((xs_a hg172 (xne hs_a0 hs_b171 (by decide))).trans eq137) (by rw [(xv_a hg172 (xne hs_w3 hs_b171 (by decide)))]; exact v162)) hs_a0 ⟨by decide, rfl⟩ dX6_place_132 rfl rfl (by simp [Value.category]) (by decide) (by decide) (by decide) (by decide) (fun r181 S183 g182 pr181 qr181 hg182 => ?_)
              obtain ⟨rfl, rfl, k184, k185⟩ := pr181
              refine X_st [] rfl ?_
              obtain ⟨z186, ez186, lz186, uz186, kz186⟩ := k184
              refine X_iinc hK (i := 6) (z := z135) (n := 1) 1 [(6, .int (iI (z135 + 1))), (7, .int (iI ((x1 * 8) + z135))), (0, .ref a0), (1, .int (iI x1)), (2, .int (iI x2)), (3, .int (iI x3)), (4, .long y4)] dX6_place_135 rfl (by decide) rfl ?_
              refine X_goto hK 65 dX6_place_138 (by decide) ?_
              refine X_lv [(6, .int (iI (z135 + 1))), (0, .ref a0), (1, .int (iI x1)), (2, .int (iI x2)), (3, .int (iI x3)), (4, .long y4)] [0, 2, 3, 4, 5, 6] rfl ?_
              exact ihP161  g182 (xM.tr (xM_ua (xM.tr xM.rf xLe.rf hg136 (by decide)) hg172 hs_b171 (by decide) (by decide)) xLe.rf hg182 (by decide)) (z135 + 1) (by omega) (by omega) z186 (by omega) (by omega) ez186 kz186 (xFr.tr (xFr.t v163 hg172 hs_b171 (by decide)) k185) (by omega)
      exact P161 ((24 - 0 : Int).toNat + 1) g xM.rf 0 (by omega) (by omega) m0 (by omega) (by omega) em0 hp0 xFr.rf (by omega)
    · refine X_aloadn hK (i := 0) 0 dX6_place_24 rfl rfl ?_
      refine X_iloadn hK (i := 3) 3 dX6_place_25 rfl rfl ?_
      refine X_puti hK fl_X6_42_7 hs_a0 (by decide) sl_7_9 (by omega) (by omega) dX6_place_26 (fun g187 hg187 => ?_)
      refine X_iconst hK dX6_place_29 ?_
      refine X_istore hK (i := 6) [(6, .int (iI 0)), (0, .ref a0), (1, .int (iI x1)), (2, .int (iI x2)), (3, .int (iI x3)), (4, .long y4)] dX6_place_30 (by decide) rfl ?_
      have P223 : ∀ (nP223 : Nat) (g218 : xG) (_ : xM [(12300, 0)] S g187 g218) (z217 : Int) (_ : 0 ≤ z217) (_ : z217 ≤ 4) (_ : ∀ k, 0 ≤ k → k < z217 → 0 ≤ xv g218 w3 k) (_ : xFr 12300 S g g218 w3) (_ : 20 - z217 < (nP223 : Int)), X K E 32 [(6, .int (iI z217)), (0, .ref a0), (1, .int (iI x1)), (2, .int (iI x2)), (3, .int (iI x3)), (4, .long y4)] [] S g218 0 0 := by
        intro nP223
        induction nP223 with
        | zero => intro g218 hg218 z217 lz217 uz217 v224 v225 mP223; exact False.elim (by omega)
        | succ nP223 ihP223 =>
          intro g218 hg218 z217 lz217 uz217 v224 v225 mP223
          refine X_iload hK (i := 6) 0 dX6_place_32 rfl ?_
          refine X_aloadn hK (i := 0) 1 dX6_place_34 rfl rfl ?_
          refine X_getK hK fl_X6_9_7 hs_a0 ((hg218 a0 7 0 0 hs_a0 (by decide)).trans ((xs_k hg187 (by decide)).trans en0)) dX6_place_35 ?_
          refine X_icmp_ge hK 61 (by omega) (by omega) dX6_place_38 (by decide) (fun c226 => ?_) (fun c226 => ?_)
          · exact hret _ _ _ _ _ _ dX6_place_61 ⟨rfl, rfl, ⟨x3, ((hg218 a0 7 0 9 hs_a0 (by decide)).trans (xs_s hg187)), by omega, by omega, Or.inr (fun k q1 q2 => v224 k q1 (by omega))⟩, v225⟩ (Nat.le_refl _) (Nat.le_refl _)
          · refine X_aloadn hK (i := 0) 1 dX6_place_41 rfl rfl ?_
            refine X_getK hK fl_X6_22_7 hs_a0 ((hg218 a0 7 0 3 hs_a0 (by decide)).trans ((xs_k hg187 (by decide)).trans ew3)) dX6_place_42 ?_
            refine X_iload hK (i := 6) 0 dX6_place_45 rfl ?_
            refine X_aloadn hK (i := 0) 1 dX6_place_47 rfl rfl ?_
            refine X_getr hK 12500 8 fl_X6_28_7 hs_a0 sl_7_5 dX6_place_48 (fun b227 eb227 hs_b227 => ?_)
            refine X_iload hK (i := 6) 0 dX6_place_51 rfl ?_
            refine X_iald hK hs_b227 (by decide) sl_12500 (by omega) (by omega) dX6_place_53 (fun z228 ez228 lz228 uz228 => ?_)
            refine X_iast hK hs_w3 (by decide) (by decide) sl_12300 (by omega) (by omega) (by omega) (by omega) dX6_place_54 (fun g229 hg229 => ?_)
            refine X_iinc hK (i := 6) (z := z217) (n := 1) 0 [(6, .int (iI (z217 + 1))), (0, .ref a0), (1, .int (iI x1)), (2, .int (iI x2)), (3, .int (iI x3)), (4, .long y4)] dX6_place_55 rfl (by decide) rfl ?_
            refine X_goto hK 32 dX6_place_58 (by decide) ?_
            exact ihP223  g229 (xM_ua (xM.tr xM.rf xLe.rf hg218 (by decide)) hg229 hs_w3 (by decide) (by decide)) (z217 + 1) (by omega) (by omega) (xpre (P := fun x => 0 ≤ x) v224 (fun i9 hi9 h09 => (show xv g229 w3 i9 = xv g218 w3 i9 from by rw [(xv_k (i := i9) hg229 (by omega) (by omega) (by omega))])) (by rw [show xv g229 w3 z217 = _ from (show xv g229 w3 z217 = z228 from by rw [xv_s hg229 (by omega)])]; omega)) (xFr.w v225 hg229) (by omega)
      exact P223 ((20 - 0 : Int).toNat + 1) g187 xM.rf 0 (by omega) (by omega) (fun k q1 q2 => by omega) (xFr.t xFr.rf hg187 hs_a0 (by decide)) (by omega)
  · exact hret _ _ _ _ _ _ dX6_place_15 ⟨rfl, rfl, ⟨m0, em0, by omega, by omega, hp0⟩, xFr.rf⟩ (Nat.le_refl _) (Nat.le_refl _)

set_option maxHeartbeats 4000000 in
set_option maxRecDepth 100000 in
theorem c2_place_3 (l : Launch) (D : va_G) (kA : Nat → ClassId) (b0 : Nat) (t0 : Nat → Nat) (S : xT) (g : xG) (a0 : Nat) (x1 : Int) (x2 : Int) (x3 : Int) (y4 : Int64) (n0 : Int) (w3 : Nat) (m0 : Int) (hs_a0 : S a0 = some (7, 0)) (hx1 : 3 ≤ x1 ∧ x1 ≤ 3) (hx2 : 0 ≤ x2 ∧ x2 ≤ 255) (hx3 : (-2147483648) ≤ x3 ∧ x3 ≤ 2147483647) (hn0 : 3 ≤ n0 ∧ n0 ≤ 8) (en0 : g a0 0 = .int (iI n0)) (ew3 : g a0 3 = .ref w3) (hs_w3 : S w3 = some (12300, 8)) (hm0 : (-2147483648) ≤ m0 ∧ m0 ≤ 2147483647) (em0 : g a0 9 = .int (iI m0)) (hp0 : m0 = -1 ∨ xCo n0 (xv g w3)) : xMt l yX6_place cX6_place 8 none 5 0 0 135 D kA b0 t0 [(12500, 0), (7, 9), (12300, 0)] [.ref a0, .int (iI x1), .int (iI x2), .int (iI x3), .long y4] S g (fun (r : Option Value) (S1 : xT) (g1 : xG) => S = S1 ∧ r = none ∧ (∃ z9 : Int, g1 a0 9 = .int (iI z9) ∧ -2147483648 ≤ z9 ∧ z9 ≤ 2147483647 ∧ (z9 = -1 ∨ xCo n0 (xv g1 w3))) ∧ (xFr 12300 S g g1 w3)) := by
  refine xEnterV (by decide) (by simp [lg_sl, Value.category]) [(0, .ref a0), (1, .int (iI x1)), (2, .int (iI x2)), (3, .int (iI x3)), (4, .long y4)] rfl ?_
  intro K E hK hret _ _ _
  refine X_iloadn hK (i := 3) 3 dX6_place_0 rfl rfl ?_
  refine X_aloadn hK (i := 0) 0 dX6_place_1 rfl rfl ?_
  refine X_getr hK 12600 256 fl_X6_31_7 hs_a0 sl_7_6 dX6_place_2 (fun b1 eb1 hs_b1 => ?_)
  refine X_iloadn hK (i := 2) 2 dX6_place_5 rfl rfl ?_
  refine X_iald hK hs_b1 (by decide) sl_12600 (by omega) (by omega) dX6_place_6 (fun z2 ez2 lz2 uz2 => ?_)
  refine X_iadd hK dX6_place_7 ?_
  refine X_norm (fun z3 ez3 lz3 uz3 => ?_)
  refine X_aloadn hK (i := 0) 0 dX6_place_8 rfl rfl ?_
  refine X_getK hK fl_X6_42_7 hs_a0 em0 dX6_place_9 ?_
  refine X_icmp_gt hK 16 (by omega) (by omega) dX6_place_12 (by decide) (fun c4 => ?_) (fun c4 => ?_)
  · refine X_iloadn hK (i := 1) 1 dX6_place_16 rfl rfl ?_
    refine X_aloadn hK (i := 0) 0 dX6_place_17 rfl rfl ?_
    refine X_getK hK fl_X6_9_7 hs_a0 en0 dX6_place_18 ?_
    refine X_icmp_ne hK 62 (by omega) (by omega) dX6_place_21 (by decide) (fun c5 => ?_) (fun c5 => ?_)
    · refine X_iconst hK dX6_place_62 ?_
      refine X_istore hK (i := 6) [(6, .int (iI 0)), (0, .ref a0), (1, .int (iI x1)), (2, .int (iI x2)), (3, .int (iI x3)), (4, .long y4)] dX6_place_63 (by decide) rfl ?_
      have P161 : ∀ (nP161 : Nat) (g136 : xG) (_ : xM [(12500, 0), (7, 9), (12300, 0)] S g g136) (z135 : Int) (_ : 0 ≤ z135) (_ : z135 ≤ 8) (q137 : Int) (_ : (-2147483648) ≤ q137) (_ : q137 ≤ 2147483647) (_ : g136 a0 9 = .int (iI q137)) (_ : q137 = -1 ∨ xCo n0 (xv g136 w3)) (_ : xFr 12300 S g g136 w3) (_ : 24 - z135 < (nP161 : Int)), X K E 65 [(6, .int (iI z135)), (0, .ref a0), (1, .int (iI x1)), (2, .int (iI x2)), (3, .int (iI x3)), (4, .long y4)] [] S g136 0 0 := by
        intro nP161
        induction nP161 with
        | zero => intro g136 hg136 z135 lz135 uz135 q137 lq137 uq137 eq137 v162 v163 mP161; exact False.elim (by omega)
        | succ nP161 ihP161 =>
          intro g136 hg136 z135 lz135 uz135 q137 lq137 uq137 eq137 v162 v163 mP161
          refine X_iload hK (i := 6) 0 dX6_place_65 rfl ?_
          refine X_aloadn hK (i := 0) 1 dX6_place_67 rfl rfl ?_
          refine X_getK hK fl_X6_9_7 hs_a0 ((hg136 a0 7 0 0 hs_a0 (by decide)).trans en0) dX6_place_68 ?_
          refine X_icmp_ge hK 141 (by omega) (by omega) dX6_place_71 (by decide) (fun c164 => ?_) (fun c164 => ?_)
          · exact hret _ _ _ _ _ _ dX6_place_141 ⟨rfl, rfl, ⟨q137, eq137, by omega, by omega, v162⟩, v163⟩ (Nat.le_refl _) (Nat.le_refl _)
          · refine X_iloadn hK (i := 1) 2 dX6_place_74 rfl rfl ?_
            refine X_bipush hK dX6_place_75 (by decide) ?_
            refine X_imul hK dX6_place_77 ?_
            refine X_iload hK (i := 6) 0 dX6_place_78 rfl ?_
            refine X_iadd hK dX6_place_80 ?_
            refine X_istore hK (i := 7) [(7, .int (iI ((x1 * 8) + z135))), (6, .int (iI z135)), (0, .ref a0), (1, .int (iI x1)), (2, .int (iI x2)), (3, .int (iI x3)), (4, .long y4)] dX6_place_81 (by decide) rfl ?_
            refine X_lload hK (i := 4) 6 dX6_place_83 rfl ?_
            refine X_iload hK (i := 7) 0 dX6_place_85 rfl ?_
            refine X_lushr hK dX6_place_87 (fun y165 => ?_)
            refine X_lconst hK dX6_place_88 (fun y166 => ?_)
            refine X_land hK dX6_place_89 (fun y167 => ?_)
            refine X_lconst hK dX6_place_90 (fun y168 => ?_)
            refine X_lcmp hK dX6_place_91 (fun z169 lz169 uz169 => ?_)
            refine X_if_ne hK 135 (by omega) dX6_place_92 (by decide) (fun c170 => ?_) (fun c170 => ?_)
            · refine X_iinc hK (i := 6) (z := z135) (n := 1) 1 [(6, .int (iI (z135 + 1))), (7, .int (iI ((x1 * 8) + z135))), (0, .ref a0), (1, .int (iI x1)), (2, .int (iI x2)), (3, .int (iI x3)), (4, .long y4)] dX6_place_135 rfl (by decide) rfl ?_
              refine X_goto hK 65 dX6_place_138 (by decide) ?_
              refine X_lv [(6, .int (iI (z135 + 1))), (0, .ref a0), (1, .int (iI x1)), (2, .int (iI x2)), (3, .int (iI x3)), (4, .long y4)] [0, 2, 3, 4, 5, 6] rfl ?_
              exact ihP161  g136 (xM.tr xM.rf xLe.rf hg136 (by decide)) (z135 + 1) (by omega) (by omega) q137 (by omega) (by omega) eq137 v162 v163 (by omega)
            · refine X_aloadn hK (i := 0) 2 dX6_place_95 rfl rfl ?_
              refine X_getr hK 12500 8 fl_X6_28_7 hs_a0 sl_7_5 dX6_place_96 (fun b171 eb171 hs_b171 => ?_)
              refine X_iloadn hK (i := 1) 3 dX6_place_99 rfl rfl ?_
              refine X_iload hK (i := 6) 1 dX6_place_100 rfl ?_
              refine X_iast hK hs_b171 (by decide) (by decide) sl_12500 (by omega) (by omega) (by omega) (by omega) dX6_place_102 (fun g172 hg172 => ?_)
              refine X_aloadn hK (i := 0) 2 dX6_place_103 rfl rfl ?_
              refine X_iloadn hK (i := 1) 3 dX6_place_104 rfl rfl ?_
              refine X_iconst hK dX6_place_105 ?_
              refine X_iadd hK dX6_place_106 ?_
              refine X_iloadn hK (i := 2) 4 dX6_place_107 rfl rfl ?_
              refine X_iconst hK dX6_place_108 ?_
              refine X_iload hK (i := 6) 1 dX6_place_109 rfl ?_
              refine X_ishl hK dX6_place_111 (fun z173 ez173 lz173 uz173 => ?_)
              have bz173 := xshlB 7 ez173 ⟨lz173, uz173⟩ (by omega) (by decide)
              refine X_ior hK dX6_place_112 (fun z174 ez174 lz174 uz174 => ?_)
              have bz174 := xiorB 8 ez174 ⟨lz174, uz174⟩ (by omega) (by omega) (by decide)
              refine X_iloadn hK (i := 3) 5 dX6_place_113 rfl rfl ?_
              refine X_aloadn hK (i := 0) 2 dX6_place_114 rfl rfl ?_
              refine X_getr hK 12100 64 fl_X6_15_7 hs_a0 sl_7_1 dX6_place_115 (fun b175 eb175 hs_b175 => ?_)
              refine X_iload hK (i := 7) 0 dX6_place_118 rfl ?_
              refine X_iald hK hs_b175 (by decide) sl_12100 (by omega) (by omega) dX6_place_120 (fun z176 ez176 lz176 uz176 => ?_)
              refine X_iadd hK dX6_place_121 ?_
              refine X_norm (fun z177 ez177 lz177 uz177 => ?_)
              refine X_lload hK (i := 4) 6 dX6_place_122 rfl ?_
              refine X_aloadn hK (i := 0) 2 dX6_place_124 rfl rfl ?_
              refine X_getr hK 12802 64 fl_X6_38_7 hs_a0 sl_7_8 dX6_place_125 (fun b178 eb178 hs_b178 => ?_)
              refine X_iload hK (i := 7) 0 dX6_place_128 rfl ?_
              refine X_lald hK hs_b178 (by decide) sl_12802 (by omega) (by omega) dX6_place_130 (fun y179 => ?_)
              refine X_lor hK dX6_place_131 (fun y180 => ?_)
              refine X_callV hK [.int (iI (x1 + 1)), .int (iI z174), .int (iI z177), .long y180] [] lk_X6_80 (c2_place_4 _ _ _ _ _ S g172 a0 (x1 + 1) z174 z177 y180 n0 w3 q137 hs_a0 (by omega) (by omega) (by omega) (by omega) ((xs_a hg172 (xne hs_a0 hs_b171 (by decide))).trans ((hg136 a0 7 0 0 hs_a0 (by decide)).trans en0)) ((xs_a hg172 (xne hs_a0 hs_b171 (by decide))).trans ((hg136 a0 7 0 3 hs_a0 (by decide)).trans ew3)) hs_w3 (by omega) ((xs_a hg172 (xne hs_a0 hs_b171 (by decide))).trans eq137) (by rw [(xv_a hg172 (xne hs_w3 hs_b171 (by decide)))]; exact v162)) hs_a0 ⟨by decide, rfl⟩ dX6_place_132 rfl rfl (by simp [Value.category]) (by decide) (by decide) (by decide) (by decide) (fun r181 S183 g182 pr181 qr181 hg182 => ?_)
              obtain ⟨rfl, rfl, k184, k185⟩ := pr181
              refine X_st [] rfl ?_
              obtain ⟨z186, ez186, lz186, uz186, kz186⟩ := k184
              refine X_iinc hK (i := 6) (z := z135) (n := 1) 1 [(6, .int (iI (z135 + 1))), (7, .int (iI ((x1 * 8) + z135))), (0, .ref a0), (1, .int (iI x1)), (2, .int (iI x2)), (3, .int (iI x3)), (4, .long y4)] dX6_place_135 rfl (by decide) rfl ?_
              refine X_goto hK 65 dX6_place_138 (by decide) ?_
              refine X_lv [(6, .int (iI (z135 + 1))), (0, .ref a0), (1, .int (iI x1)), (2, .int (iI x2)), (3, .int (iI x3)), (4, .long y4)] [0, 2, 3, 4, 5, 6] rfl ?_
              exact ihP161  g182 (xM.tr (xM_ua (xM.tr xM.rf xLe.rf hg136 (by decide)) hg172 hs_b171 (by decide) (by decide)) xLe.rf hg182 (by decide)) (z135 + 1) (by omega) (by omega) z186 (by omega) (by omega) ez186 kz186 (xFr.tr (xFr.t v163 hg172 hs_b171 (by decide)) k185) (by omega)
      exact P161 ((24 - 0 : Int).toNat + 1) g xM.rf 0 (by omega) (by omega) m0 (by omega) (by omega) em0 hp0 xFr.rf (by omega)
    · refine X_aloadn hK (i := 0) 0 dX6_place_24 rfl rfl ?_
      refine X_iloadn hK (i := 3) 3 dX6_place_25 rfl rfl ?_
      refine X_puti hK fl_X6_42_7 hs_a0 (by decide) sl_7_9 (by omega) (by omega) dX6_place_26 (fun g187 hg187 => ?_)
      refine X_iconst hK dX6_place_29 ?_
      refine X_istore hK (i := 6) [(6, .int (iI 0)), (0, .ref a0), (1, .int (iI x1)), (2, .int (iI x2)), (3, .int (iI x3)), (4, .long y4)] dX6_place_30 (by decide) rfl ?_
      have P223 : ∀ (nP223 : Nat) (g218 : xG) (_ : xM [(12300, 0)] S g187 g218) (z217 : Int) (_ : 0 ≤ z217) (_ : z217 ≤ 3) (_ : ∀ k, 0 ≤ k → k < z217 → 0 ≤ xv g218 w3 k) (_ : xFr 12300 S g g218 w3) (_ : 19 - z217 < (nP223 : Int)), X K E 32 [(6, .int (iI z217)), (0, .ref a0), (1, .int (iI x1)), (2, .int (iI x2)), (3, .int (iI x3)), (4, .long y4)] [] S g218 0 0 := by
        intro nP223
        induction nP223 with
        | zero => intro g218 hg218 z217 lz217 uz217 v224 v225 mP223; exact False.elim (by omega)
        | succ nP223 ihP223 =>
          intro g218 hg218 z217 lz217 uz217 v224 v225 mP223
          refine X_iload hK (i := 6) 0 dX6_place_32 rfl ?_
          refine X_aloadn hK (i := 0) 1 dX6_place_34 rfl rfl ?_
          refine X_getK hK fl_X6_9_7 hs_a0 ((hg218 a0 7 0 0 hs_a0 (by decide)).trans ((xs_k hg187 (by decide)).trans en0)) dX6_place_35 ?_
          refine X_icmp_ge hK 61 (by omega) (by omega) dX6_place_38 (by decide) (fun c226 => ?_) (fun c226 => ?_)
          · exact hret _ _ _ _ _ _ dX6_place_61 ⟨rfl, rfl, ⟨x3, ((hg218 a0 7 0 9 hs_a0 (by decide)).trans (xs_s hg187)), by omega, by omega, Or.inr (fun k q1 q2 => v224 k q1 (by omega))⟩, v225⟩ (Nat.le_refl _) (Nat.le_refl _)
          · refine X_aloadn hK (i := 0) 1 dX6_place_41 rfl rfl ?_
            refine X_getK hK fl_X6_22_7 hs_a0 ((hg218 a0 7 0 3 hs_a0 (by decide)).trans ((xs_k hg187 (by decide)).trans ew3)) dX6_place_42 ?_
            refine X_iload hK (i := 6) 0 dX6_place_45 rfl ?_
            refine X_aloadn hK (i := 0) 1 dX6_place_47 rfl rfl ?_
            refine X_getr hK 12500 8 fl_X6_28_7 hs_a0 sl_7_5 dX6_place_48 (fun b227 eb227 hs_b227 => ?_)
            refine X_iload hK (i := 6) 0 dX6_place_51 rfl ?_
            refine X_iald hK hs_b227 (by decide) sl_12500 (by omega) (by omega) dX6_place_53 (fun z228 ez228 lz228 uz228 => ?_)
            refine X_iast hK hs_w3 (by decide) (by decide) sl_12300 (by omega) (by omega) (by omega) (by omega) dX6_place_54 (fun g229 hg229 => ?_)
            refine X_iinc hK (i := 6) (z := z217) (n := 1) 0 [(6, .int (iI (z217 + 1))), (0, .ref a0), (1, .int (iI x1)), (2, .int (iI x2)), (3, .int (iI x3)), (4, .long y4)] dX6_place_55 rfl (by decide) rfl ?_
            refine X_goto hK 32 dX6_place_58 (by decide) ?_
            exact ihP223  g229 (xM_ua (xM.tr xM.rf xLe.rf hg218 (by decide)) hg229 hs_w3 (by decide) (by decide)) (z217 + 1) (by omega) (by omega) (xpre (P := fun x => 0 ≤ x) v224 (fun i9 hi9 h09 => (show xv g229 w3 i9 = xv g218 w3 i9 from by rw [(xv_k (i := i9) hg229 (by omega) (by omega) (by omega))])) (by rw [show xv g229 w3 z217 = _ from (show xv g229 w3 z217 = z228 from by rw [xv_s hg229 (by omega)])]; omega)) (xFr.w v225 hg229) (by omega)
      exact P223 ((19 - 0 : Int).toNat + 1) g187 xM.rf 0 (by omega) (by omega) (fun k q1 q2 => by omega) (xFr.t xFr.rf hg187 hs_a0 (by decide)) (by omega)
  · exact hret _ _ _ _ _ _ dX6_place_15 ⟨rfl, rfl, ⟨m0, em0, by omega, by omega, hp0⟩, xFr.rf⟩ (Nat.le_refl _) (Nat.le_refl _)

set_option maxHeartbeats 4000000 in
set_option maxRecDepth 100000 in
theorem c2_place_2 (l : Launch) (D : va_G) (kA : Nat → ClassId) (b0 : Nat) (t0 : Nat → Nat) (S : xT) (g : xG) (a0 : Nat) (x1 : Int) (x2 : Int) (x3 : Int) (y4 : Int64) (n0 : Int) (w3 : Nat) (m0 : Int) (hs_a0 : S a0 = some (7, 0)) (hx1 : 2 ≤ x1 ∧ x1 ≤ 2) (hx2 : 0 ≤ x2 ∧ x2 ≤ 255) (hx3 : (-2147483648) ≤ x3 ∧ x3 ≤ 2147483647) (hn0 : 2 ≤ n0 ∧ n0 ≤ 8) (en0 : g a0 0 = .int (iI n0)) (ew3 : g a0 3 = .ref w3) (hs_w3 : S w3 = some (12300, 8)) (hm0 : (-2147483648) ≤ m0 ∧ m0 ≤ 2147483647) (em0 : g a0 9 = .int (iI m0)) (hp0 : m0 = -1 ∨ xCo n0 (xv g w3)) : xMt l yX6_place cX6_place 8 none 6 0 0 162 D kA b0 t0 [(12500, 0), (7, 9), (12300, 0)] [.ref a0, .int (iI x1), .int (iI x2), .int (iI x3), .long y4] S g (fun (r : Option Value) (S1 : xT) (g1 : xG) => S = S1 ∧ r = none ∧ (∃ z9 : Int, g1 a0 9 = .int (iI z9) ∧ -2147483648 ≤ z9 ∧ z9 ≤ 2147483647 ∧ (z9 = -1 ∨ xCo n0 (xv g1 w3))) ∧ (xFr 12300 S g g1 w3)) := by
  refine xEnterV (by decide) (by simp [lg_sl, Value.category]) [(0, .ref a0), (1, .int (iI x1)), (2, .int (iI x2)), (3, .int (iI x3)), (4, .long y4)] rfl ?_
  intro K E hK hret _ _ _
  refine X_iloadn hK (i := 3) 3 dX6_place_0 rfl rfl ?_
  refine X_aloadn hK (i := 0) 0 dX6_place_1 rfl rfl ?_
  refine X_getr hK 12600 256 fl_X6_31_7 hs_a0 sl_7_6 dX6_place_2 (fun b1 eb1 hs_b1 => ?_)
  refine X_iloadn hK (i := 2) 2 dX6_place_5 rfl rfl ?_
  refine X_iald hK hs_b1 (by decide) sl_12600 (by omega) (by omega) dX6_place_6 (fun z2 ez2 lz2 uz2 => ?_)
  refine X_iadd hK dX6_place_7 ?_
  refine X_norm (fun z3 ez3 lz3 uz3 => ?_)
  refine X_aloadn hK (i := 0) 0 dX6_place_8 rfl rfl ?_
  refine X_getK hK fl_X6_42_7 hs_a0 em0 dX6_place_9 ?_
  refine X_icmp_gt hK 16 (by omega) (by omega) dX6_place_12 (by decide) (fun c4 => ?_) (fun c4 => ?_)
  · refine X_iloadn hK (i := 1) 1 dX6_place_16 rfl rfl ?_
    refine X_aloadn hK (i := 0) 0 dX6_place_17 rfl rfl ?_
    refine X_getK hK fl_X6_9_7 hs_a0 en0 dX6_place_18 ?_
    refine X_icmp_ne hK 62 (by omega) (by omega) dX6_place_21 (by decide) (fun c5 => ?_) (fun c5 => ?_)
    · refine X_iconst hK dX6_place_62 ?_
      refine X_istore hK (i := 6) [(6, .int (iI 0)), (0, .ref a0), (1, .int (iI x1)), (2, .int (iI x2)), (3, .int (iI x3)), (4, .long y4)] dX6_place_63 (by decide) rfl ?_
      have P161 : ∀ (nP161 : Nat) (g136 : xG) (_ : xM [(12500, 0), (7, 9), (12300, 0)] S g g136) (z135 : Int) (_ : 0 ≤ z135) (_ : z135 ≤ 8) (q137 : Int) (_ : (-2147483648) ≤ q137) (_ : q137 ≤ 2147483647) (_ : g136 a0 9 = .int (iI q137)) (_ : q137 = -1 ∨ xCo n0 (xv g136 w3)) (_ : xFr 12300 S g g136 w3) (_ : 24 - z135 < (nP161 : Int)), X K E 65 [(6, .int (iI z135)), (0, .ref a0), (1, .int (iI x1)), (2, .int (iI x2)), (3, .int (iI x3)), (4, .long y4)] [] S g136 0 0 := by
        intro nP161
        induction nP161 with
        | zero => intro g136 hg136 z135 lz135 uz135 q137 lq137 uq137 eq137 v162 v163 mP161; exact False.elim (by omega)
        | succ nP161 ihP161 =>
          intro g136 hg136 z135 lz135 uz135 q137 lq137 uq137 eq137 v162 v163 mP161
          refine X_iload hK (i := 6) 0 dX6_place_65 rfl ?_
          refine X_aloadn hK (i := 0) 1 dX6_place_67 rfl rfl ?_
          refine X_getK hK fl_X6_9_7 hs_a0 ((hg136 a0 7 0 0 hs_a0 (by decide)).trans en0) dX6_place_68 ?_
          refine X_icmp_ge hK 141 (by omega) (by omega) dX6_place_71 (by decide) (fun c164 => ?_) (fun c164 => ?_)
          · exact hret _ _ _ _ _ _ dX6_place_141 ⟨rfl, rfl, ⟨q137, eq137, by omega, by omega, v162⟩, v163⟩ (Nat.le_refl _) (Nat.le_refl _)
          · refine X_iloadn hK (i := 1) 2 dX6_place_74 rfl rfl ?_
            refine X_bipush hK dX6_place_75 (by decide) ?_
            refine X_imul hK dX6_place_77 ?_
            refine X_iload hK (i := 6) 0 dX6_place_78 rfl ?_
            refine X_iadd hK dX6_place_80 ?_
            refine X_istore hK (i := 7) [(7, .int (iI ((x1 * 8) + z135))), (6, .int (iI z135)), (0, .ref a0), (1, .int (iI x1)), (2, .int (iI x2)), (3, .int (iI x3)), (4, .long y4)] dX6_place_81 (by decide) rfl ?_
            refine X_lload hK (i := 4) 6 dX6_place_83 rfl ?_
            refine X_iload hK (i := 7) 0 dX6_place_85 rfl ?_
            refine X_lushr hK dX6_place_87 (fun y165 => ?_)
            refine X_lconst hK dX6_place_88 (fun y166 => ?_)
            refine X_land hK dX6_place_89 (fun y167 => ?_)
            refine X_lconst hK dX6_place_90 (fun y168 => ?_)
            refine X_lcmp hK dX6_place_91 (fun z169 lz169 uz169 => ?_)
            refine X_if_ne hK 135 (by omega) dX6_place_92 (by decide) (fun c170 => ?_) (fun c170 => ?_)
            · refine X_iinc hK (i := 6) (z := z135) (n := 1) 1 [(6, .int (iI (z135 + 1))), (7, .int (iI ((x1 * 8) + z135))), (0, .ref a0), (1, .int (iI x1)), (2, .int (iI x2)), (3, .int (iI x3)), (4, .long y4)] dX6_place_135 rfl (by decide) rfl ?_
              refine X_goto hK 65 dX6_place_138 (by decide) ?_
              refine X_lv [(6, .int (iI (z135 + 1))), (0, .ref a0), (1, .int (iI x1)), (2, .int (iI x2)), (3, .int (iI x3)), (4, .long y4)] [0, 2, 3, 4, 5, 6] rfl ?_
              exact ihP161  g136 (xM.tr xM.rf xLe.rf hg136 (by decide)) (z135 + 1) (by omega) (by omega) q137 (by omega) (by omega) eq137 v162 v163 (by omega)
            · refine X_aloadn hK (i := 0) 2 dX6_place_95 rfl rfl ?_
              refine X_getr hK 12500 8 fl_X6_28_7 hs_a0 sl_7_5 dX6_place_96 (fun b171 eb171 hs_b171 => ?_)
              refine X_iloadn hK (i := 1) 3 dX6_place_99 rfl rfl ?_
              refine X_iload hK (i := 6) 1 dX6_place_100 rfl ?_
              refine X_iast hK hs_b171 (by decide) (by decide) sl_12500 (by omega) (by omega) (by omega) (by omega) dX6_place_102 (fun g172 hg172 => ?_)
              refine X_aloadn hK (i := 0) 2 dX6_place_103 rfl rfl ?_
              refine X_iloadn hK (i := 1) 3 dX6_place_104 rfl rfl ?_
              refine X_iconst hK dX6_place_105 ?_
              refine X_iadd hK dX6_place_106 ?_
              refine X_iloadn hK (i := 2) 4 dX6_place_107 rfl rfl ?_
              refine X_iconst hK dX6_place_108 ?_
              refine X_iload hK (i := 6) 1 dX6_place_109 rfl ?_
              refine X_ishl hK dX6_place_111 (fun z173 ez173 lz173 uz173 => ?_)
              have bz173 := xshlB 7 ez173 ⟨lz173, uz173⟩ (by omega) (by decide)
              refine X_ior hK dX6_place_112 (fun z174 ez174 lz174 uz174 => ?_)
              have bz174 := xiorB 8 ez174 ⟨lz174, uz174⟩ (by omega) (by omega) (by decide)
              refine X_iloadn hK (i := 3) 5 dX6_place_113 rfl rfl ?_
              refine X_aloadn hK (i := 0) 2 dX6_place_114 rfl rfl ?_
              refine X_getr hK 12100 64 fl_X6_15_7 hs_a0 sl_7_1 dX6_place_115 (fun b175 eb175 hs_b175 => ?_)
              refine X_iload hK (i := 7) 0 dX6_place_118 rfl ?_
              refine X_iald hK hs_b175 (by decide) sl_12100 (by omega) (by omega) dX6_place_120 (fun z176 ez176 lz176 uz176 => ?_)
              refine X_iadd hK dX6_place_121 ?_
              refine X_norm (fun z177 ez177 lz177 uz177 => ?_)
              refine X_lload hK (i := 4) 6 dX6_place_122 rfl ?_
              refine X_aloadn hK (i := 0) 2 dX6_place_124 rfl rfl ?_
              refine X_getr hK 12802 64 fl_X6_38_7 hs_a0 sl_7_8 dX6_place_125 (fun b178 eb178 hs_b178 => ?_)
              refine X_iload hK (i := 7) 0 dX6_place_128 rfl ?_
              refine X_lald hK hs_b178 (by decide) sl_12802 (by omega) (by omega) dX6_place_130 (fun y179 => ?_)
              refine X_lor hK dX6_place_131 (fun y180 => ?_)
              refine X_callV hK [.int (iI (x1 + 1)), .int (iI z174), .int (iI z177), .long y180] [] lk_X6_80 (c2_place_3 _ _ _ _ _ S g172 a0 (x1 + 1) z174 z177 y180 n0 w3 q137 hs_a0 (by omega) (by omega) (by omega) (by omega) ((xs_a hg172 (xne hs_a0 hs_b171 (by decide))).trans ((hg136 a0 7 0 0 hs_a0 (by decide)).trans en0)) ((xs_a hg172 (xne hs_a0 hs_b171 (by decide))).trans ((hg136 a0 7 0 3 hs_a0 (by decide)).trans ew3)) hs_w3 (by omega) ((xs_a hg172 (xne hs_a0 hs_b171 (by decide))).trans eq137) (by rw [(xv_a hg172 (xne hs_w3 hs_b171 (by decide)))]; exact v162)) hs_a0 ⟨by decide, rfl⟩ dX6_place_132 rfl rfl (by simp [Value.category]) (by decide) (by decide) (by decide) (by decide) (fun r181 S183 g182 pr181 qr181 hg182 => ?_)
              obtain ⟨rfl, rfl, k184, k185⟩ := pr181
              refine X_st [] rfl ?_
              obtain ⟨z186, ez186, lz186, uz186, kz186⟩ := k184
              refine X_iinc hK (i := 6) (z := z135) (n := 1) 1 [(6, .int (iI (z135 + 1))), (7, .int (iI ((x1 * 8) + z135))), (0, .ref a0), (1, .int (iI x1)), (2, .int (iI x2)), (3, .int (iI x3)), (4, .long y4)] dX6_place_135 rfl (by decide) rfl ?_
              refine X_goto hK 65 dX6_place_138 (by decide) ?_
              refine X_lv [(6, .int (iI (z135 + 1))), (0, .ref a0), (1, .int (iI x1)), (2, .int (iI x2)), (3, .int (iI x3)), (4, .long y4)] [0, 2, 3, 4, 5, 6] rfl ?_
              exact ihP161  g182 (xM.tr (xM_ua (xM.tr xM.rf xLe.rf hg136 (by decide)) hg172 hs_b171 (by decide) (by decide)) xLe.rf hg182 (by decide)) (z135 + 1) (by omega) (by omega) z186 (by omega) (by omega) ez186 kz186 (xFr.tr (xFr.t v163 hg172 hs_b171 (by decide)) k185) (by omega)
      exact P161 ((24 - 0 : Int).toNat + 1) g xM.rf 0 (by omega) (by omega) m0 (by omega) (by omega) em0 hp0 xFr.rf (by omega)
    · refine X_aloadn hK (i := 0) 0 dX6_place_24 rfl rfl ?_
      refine X_iloadn hK (i := 3) 3 dX6_place_25 rfl rfl ?_
      refine X_puti hK fl_X6_42_7 hs_a0 (by decide) sl_7_9 (by omega) (by omega) dX6_place_26 (fun g187 hg187 => ?_)
      refine X_iconst hK dX6_place_29 ?_
      refine X_istore hK (i := 6) [(6, .int (iI 0)), (0, .ref a0), (1, .int (iI x1)), (2, .int (iI x2)), (3, .int (iI x3)), (4, .long y4)] dX6_place_30 (by decide) rfl ?_
      have P223 : ∀ (nP223 : Nat) (g218 : xG) (_ : xM [(12300, 0)] S g187 g218) (z217 : Int) (_ : 0 ≤ z217) (_ : z217 ≤ 2) (_ : ∀ k, 0 ≤ k → k < z217 → 0 ≤ xv g218 w3 k) (_ : xFr 12300 S g g218 w3) (_ : 18 - z217 < (nP223 : Int)), X K E 32 [(6, .int (iI z217)), (0, .ref a0), (1, .int (iI x1)), (2, .int (iI x2)), (3, .int (iI x3)), (4, .long y4)] [] S g218 0 0 := by
        intro nP223
        induction nP223 with
        | zero => intro g218 hg218 z217 lz217 uz217 v224 v225 mP223; exact False.elim (by omega)
        | succ nP223 ihP223 =>
          intro g218 hg218 z217 lz217 uz217 v224 v225 mP223
          refine X_iload hK (i := 6) 0 dX6_place_32 rfl ?_
          refine X_aloadn hK (i := 0) 1 dX6_place_34 rfl rfl ?_
          refine X_getK hK fl_X6_9_7 hs_a0 ((hg218 a0 7 0 0 hs_a0 (by decide)).trans ((xs_k hg187 (by decide)).trans en0)) dX6_place_35 ?_
          refine X_icmp_ge hK 61 (by omega) (by omega) dX6_place_38 (by decide) (fun c226 => ?_) (fun c226 => ?_)
          · exact hret _ _ _ _ _ _ dX6_place_61 ⟨rfl, rfl, ⟨x3, ((hg218 a0 7 0 9 hs_a0 (by decide)).trans (xs_s hg187)), by omega, by omega, Or.inr (fun k q1 q2 => v224 k q1 (by omega))⟩, v225⟩ (Nat.le_refl _) (Nat.le_refl _)
          · refine X_aloadn hK (i := 0) 1 dX6_place_41 rfl rfl ?_
            refine X_getK hK fl_X6_22_7 hs_a0 ((hg218 a0 7 0 3 hs_a0 (by decide)).trans ((xs_k hg187 (by decide)).trans ew3)) dX6_place_42 ?_
            refine X_iload hK (i := 6) 0 dX6_place_45 rfl ?_
            refine X_aloadn hK (i := 0) 1 dX6_place_47 rfl rfl ?_
            refine X_getr hK 12500 8 fl_X6_28_7 hs_a0 sl_7_5 dX6_place_48 (fun b227 eb227 hs_b227 => ?_)
            refine X_iload hK (i := 6) 0 dX6_place_51 rfl ?_
            refine X_iald hK hs_b227 (by decide) sl_12500 (by omega) (by omega) dX6_place_53 (fun z228 ez228 lz228 uz228 => ?_)
            refine X_iast hK hs_w3 (by decide) (by decide) sl_12300 (by omega) (by omega) (by omega) (by omega) dX6_place_54 (fun g229 hg229 => ?_)
            refine X_iinc hK (i := 6) (z := z217) (n := 1) 0 [(6, .int (iI (z217 + 1))), (0, .ref a0), (1, .int (iI x1)), (2, .int (iI x2)), (3, .int (iI x3)), (4, .long y4)] dX6_place_55 rfl (by decide) rfl ?_
            refine X_goto hK 32 dX6_place_58 (by decide) ?_
            exact ihP223  g229 (xM_ua (xM.tr xM.rf xLe.rf hg218 (by decide)) hg229 hs_w3 (by decide) (by decide)) (z217 + 1) (by omega) (by omega) (xpre (P := fun x => 0 ≤ x) v224 (fun i9 hi9 h09 => (show xv g229 w3 i9 = xv g218 w3 i9 from by rw [(xv_k (i := i9) hg229 (by omega) (by omega) (by omega))])) (by rw [show xv g229 w3 z217 = _ from (show xv g229 w3 z217 = z228 from by rw [xv_s hg229 (by omega)])]; omega)) (xFr.w v225 hg229) (by omega)
      exact P223 ((18 - 0 : Int).toNat + 1) g187 xM.rf 0 (by omega) (by omega) (fun k q1 q2 => by omega) (xFr.t xFr.rf hg187 hs_a0 (by decide)) (by omega)
  · exact hret _ _ _ _ _ _ dX6_place_15 ⟨rfl, rfl, ⟨m0, em0, by omega, by omega, hp0⟩, xFr.rf⟩ (Nat.le_refl _) (Nat.le_refl _)

set_option maxHeartbeats 4000000 in
set_option maxRecDepth 100000 in
theorem c2_place_1 (l : Launch) (D : va_G) (kA : Nat → ClassId) (b0 : Nat) (t0 : Nat → Nat) (S : xT) (g : xG) (a0 : Nat) (x1 : Int) (x2 : Int) (x3 : Int) (y4 : Int64) (n0 : Int) (w3 : Nat) (m0 : Int) (hs_a0 : S a0 = some (7, 0)) (hx1 : 1 ≤ x1 ∧ x1 ≤ 1) (hx2 : 0 ≤ x2 ∧ x2 ≤ 255) (hx3 : (-2147483648) ≤ x3 ∧ x3 ≤ 2147483647) (hn0 : 1 ≤ n0 ∧ n0 ≤ 8) (en0 : g a0 0 = .int (iI n0)) (ew3 : g a0 3 = .ref w3) (hs_w3 : S w3 = some (12300, 8)) (hm0 : (-2147483648) ≤ m0 ∧ m0 ≤ 2147483647) (em0 : g a0 9 = .int (iI m0)) (hp0 : m0 = -1 ∨ xCo n0 (xv g w3)) : xMt l yX6_place cX6_place 8 none 7 0 0 189 D kA b0 t0 [(12500, 0), (7, 9), (12300, 0)] [.ref a0, .int (iI x1), .int (iI x2), .int (iI x3), .long y4] S g (fun (r : Option Value) (S1 : xT) (g1 : xG) => S = S1 ∧ r = none ∧ (∃ z9 : Int, g1 a0 9 = .int (iI z9) ∧ -2147483648 ≤ z9 ∧ z9 ≤ 2147483647 ∧ (z9 = -1 ∨ xCo n0 (xv g1 w3))) ∧ (xFr 12300 S g g1 w3)) := by
  refine xEnterV (by decide) (by simp [lg_sl, Value.category]) [(0, .ref a0), (1, .int (iI x1)), (2, .int (iI x2)), (3, .int (iI x3)), (4, .long y4)] rfl ?_
  intro K E hK hret _ _ _
  refine X_iloadn hK (i := 3) 3 dX6_place_0 rfl rfl ?_
  refine X_aloadn hK (i := 0) 0 dX6_place_1 rfl rfl ?_
  refine X_getr hK 12600 256 fl_X6_31_7 hs_a0 sl_7_6 dX6_place_2 (fun b1 eb1 hs_b1 => ?_)
  refine X_iloadn hK (i := 2) 2 dX6_place_5 rfl rfl ?_
  refine X_iald hK hs_b1 (by decide) sl_12600 (by omega) (by omega) dX6_place_6 (fun z2 ez2 lz2 uz2 => ?_)
  refine X_iadd hK dX6_place_7 ?_
  refine X_norm (fun z3 ez3 lz3 uz3 => ?_)
  refine X_aloadn hK (i := 0) 0 dX6_place_8 rfl rfl ?_
  refine X_getK hK fl_X6_42_7 hs_a0 em0 dX6_place_9 ?_
  refine X_icmp_gt hK 16 (by omega) (by omega) dX6_place_12 (by decide) (fun c4 => ?_) (fun c4 => ?_)
  · refine X_iloadn hK (i := 1) 1 dX6_place_16 rfl rfl ?_
    refine X_aloadn hK (i := 0) 0 dX6_place_17 rfl rfl ?_
    refine X_getK hK fl_X6_9_7 hs_a0 en0 dX6_place_18 ?_
    refine X_icmp_ne hK 62 (by omega) (by omega) dX6_place_21 (by decide) (fun c5 => ?_) (fun c5 => ?_)
    · refine X_iconst hK dX6_place_62 ?_
      refine X_istore hK (i := 6) [(6, .int (iI 0)), (0, .ref a0), (1, .int (iI x1)), (2, .int (iI x2)), (3, .int (iI x3)), (4, .long y4)] dX6_place_63 (by decide) rfl ?_
      have P161 : ∀ (nP161 : Nat) (g136 : xG) (_ : xM [(12500, 0), (7, 9), (12300, 0)] S g g136) (z135 : Int) (_ : 0 ≤ z135) (_ : z135 ≤ 8) (q137 : Int) (_ : (-2147483648) ≤ q137) (_ : q137 ≤ 2147483647) (_ : g136 a0 9 = .int (iI q137)) (_ : q137 = -1 ∨ xCo n0 (xv g136 w3)) (_ : xFr 12300 S g g136 w3) (_ : 24 - z135 < (nP161 : Int)), X K E 65 [(6, .int (iI z135)), (0, .ref a0), (1, .int (iI x1)), (2, .int (iI x2)), (3, .int (iI x3)), (4, .long y4)] [] S g136 0 0 := by
        intro nP161
        induction nP161 with
        | zero => intro g136 hg136 z135 lz135 uz135 q137 lq137 uq137 eq137 v162 v163 mP161; exact False.elim (by omega)
        | succ nP161 ihP161 =>
          intro g136 hg136 z135 lz135 uz135 q137 lq137 uq137 eq137 v162 v163 mP161
          refine X_iload hK (i := 6) 0 dX6_place_65 rfl ?_
          refine X_aloadn hK (i := 0) 1 dX6_place_67 rfl rfl ?_
          refine X_getK hK fl_X6_9_7 hs_a0 ((hg136 a0 7 0 0 hs_a0 (by decide)).trans en0) dX6_place_68 ?_
          refine X_icmp_ge hK 141 (by omega) (by omega) dX6_place_71 (by decide) (fun c164 => ?_) (fun c164 => ?_)
          · exact hret _ _ _ _ _ _ dX6_place_141 ⟨rfl, rfl, ⟨q137, eq137, by omega, by omega, v162⟩, v163⟩ (Nat.le_refl _) (Nat.le_refl _)
          · refine X_iloadn hK (i := 1) 2 dX6_place_74 rfl rfl ?_
            refine X_bipush hK dX6_place_75 (by decide) ?_
            refine X_imul hK dX6_place_77 ?_
            refine X_iload hK (i := 6) 0 dX6_place_78 rfl ?_
            refine X_iadd hK dX6_place_80 ?_
            refine X_istore hK (i := 7) [(7, .int (iI ((x1 * 8) + z135))), (6, .int (iI z135)), (0, .ref a0), (1, .int (iI x1)), (2, .int (iI x2)), (3, .int (iI x3)), (4, .long y4)] dX6_place_81 (by decide) rfl ?_
            refine X_lload hK (i := 4) 6 dX6_place_83 rfl ?_
            refine X_iload hK (i := 7) 0 dX6_place_85 rfl ?_
            refine X_lushr hK dX6_place_87 (fun y165 => ?_)
            refine X_lconst hK dX6_place_88 (fun y166 => ?_)
            refine X_land hK dX6_place_89 (fun y167 => ?_)
            refine X_lconst hK dX6_place_90 (fun y168 => ?_)
            refine X_lcmp hK dX6_place_91 (fun z169 lz169 uz169 => ?_)
            refine X_if_ne hK 135 (by omega) dX6_place_92 (by decide) (fun c170 => ?_) (fun c170 => ?_)
            · refine X_iinc hK (i := 6) (z := z135) (n := 1) 1 [(6, .int (iI (z135 + 1))), (7, .int (iI ((x1 * 8) + z135))), (0, .ref a0), (1, .int (iI x1)), (2, .int (iI x2)), (3, .int (iI x3)), (4, .long y4)] dX6_place_135 rfl (by decide) rfl ?_
              refine X_goto hK 65 dX6_place_138 (by decide) ?_
              refine X_lv [(6, .int (iI (z135 + 1))), (0, .ref a0), (1, .int (iI x1)), (2, .int (iI x2)), (3, .int (iI x3)), (4, .long y4)] [0, 2, 3, 4, 5, 6] rfl ?_
              exact ihP161  g136 (xM.tr xM.rf xLe.rf hg136 (by decide)) (z135 + 1) (by omega) (by omega) q137 (by omega) (by omega) eq137 v162 v163 (by omega)
            · refine X_aloadn hK (i := 0) 2 dX6_place_95 rfl rfl ?_
              refine X_getr hK 12500 8 fl_X6_28_7 hs_a0 sl_7_5 dX6_place_96 (fun b171 eb171 hs_b171 => ?_)
              refine X_iloadn hK (i := 1) 3 dX6_place_99 rfl rfl ?_
              refine X_iload hK (i := 6) 1 dX6_place_100 rfl ?_
              refine X_iast hK hs_b171 (by decide) (by decide) sl_12500 (by omega) (by omega) (by omega) (by omega) dX6_place_102 (fun g172 hg172 => ?_)
              refine X_aloadn hK (i := 0) 2 dX6_place_103 rfl rfl ?_
              refine X_iloadn hK (i := 1) 3 dX6_place_104 rfl rfl ?_
              refine X_iconst hK dX6_place_105 ?_
              refine X_iadd hK dX6_place_106 ?_
              refine X_iloadn hK (i := 2) 4 dX6_place_107 rfl rfl ?_
              refine X_iconst hK dX6_place_108 ?_
              refine X_iload hK (i := 6) 1 dX6_place_109 rfl ?_
              refine X_ishl hK dX6_place_111 (fun z173 ez173 lz173 uz173 => ?_)
              have bz173 := xshlB 7 ez173 ⟨lz173, uz173⟩ (by omega) (by decide)
              refine X_ior hK dX6_place_112 (fun z174 ez174 lz174 uz174 => ?_)
              have bz174 := xiorB 8 ez174 ⟨lz174, uz174⟩ (by omega) (by omega) (by decide)
              refine X_iloadn hK (i := 3) 5 dX6_place_113 rfl rfl ?_
              refine X_aloadn hK (i := 0) 2 dX6_place_114 rfl rfl ?_
              refine X_getr hK 12100 64 fl_X6_15_7 hs_a0 sl_7_1 dX6_place_115 (fun b175 eb175 hs_b175 => ?_)
              refine X_iload hK (i := 7) 0 dX6_place_118 rfl ?_
              refine X_iald hK hs_b175 (by decide) sl_12100 (by omega) (by omega) dX6_place_120 (fun z176 ez176 lz176 uz176 => ?_)
              refine X_iadd hK dX6_place_121 ?_
              refine X_norm (fun z177 ez177 lz177 uz177 => ?_)
              refine X_lload hK (i := 4) 6 dX6_place_122 rfl ?_
              refine X_aloadn hK (i := 0) 2 dX6_place_124 rfl rfl ?_
              refine X_getr hK 12802 64 fl_X6_38_7 hs_a0 sl_7_8 dX6_place_125 (fun b178 eb178 hs_b178 => ?_)
              refine X_iload hK (i := 7) 0 dX6_place_128 rfl ?_
              refine X_lald hK hs_b178 (by decide) sl_12802 (by omega) (by omega) dX6_place_130 (fun y179 => ?_)
              refine X_lor hK dX6_place_131 (fun y180 => ?_)
              refine X_callV hK [.int (iI (x1 + 1)), .int (iI z174), .int (iI z177), .long y180] [] lk_X6_80 (c2_place_2 _ _ _ _ _ S g172 a0 (x1 + 1) z174 z177 y180 n0 w3 q137 hs_a0 (by omega) (by omega) (by omega) (by omega) ((xs_a hg172 (xne hs_a0 hs_b171 (by decide))).trans ((hg136 a0 7 0 0 hs_a0 (by decide)).trans en0)) ((xs_a hg172 (xne hs_a0 hs_b171 (by decide))).trans ((hg136 a0 7 0 3 hs_a0 (by decide)).trans ew3)) hs_w3 (by omega) ((xs_a hg172 (xne hs_a0 hs_b171 (by decide))).trans eq137) (by rw [(xv_a hg172 (xne hs_w3 hs_b171 (by decide)))]; exact v162)) hs_a0 ⟨by decide, rfl⟩ dX6_place_132 rfl rfl (by simp [Value.category]) (by decide) (by decide) (by decide) (by decide) (fun r181 S183 g182 pr181 qr181 hg182 => ?_)
              obtain ⟨rfl, rfl, k184, k185⟩ := pr181
              refine X_st [] rfl ?_
              obtain ⟨z186, ez186, lz186, uz186, kz186⟩ := k184
              refine X_iinc hK (i := 6) (z := z135) (n := 1) 1 [(6, .int (iI (z135 + 1))), (7, .int (iI ((x1 * 8) + z135))), (0, .ref a0), (1, .int (iI x1)), (2, .int (iI x2)), (3, .int (iI x3)), (4, .long y4)] dX6_place_135 rfl (by decide) rfl ?_
              refine X_goto hK 65 dX6_place_138 (by decide) ?_
              refine X_lv [(6, .int (iI (z135 + 1))), (0, .ref a0), (1, .int (iI x1)), (2, .int (iI x2)), (3, .int (iI x3)), (4, .long y4)] [0, 2, 3, 4, 5, 6] rfl ?_
              exact ihP161  g182 (xM.tr (xM_ua (xM.tr xM.rf xLe.rf hg136 (by decide)) hg172 hs_b171 (by decide) (by decide)) xLe.rf hg182 (by decide)) (z135 + 1) (by omega) (by omega) z186 (by omega) (by omega) ez186 kz186 (xFr.tr (xFr.t v163 hg172 hs_b171 (by decide)) k185) (by omega)
      exact P161 ((24 - 0 : Int).toNat + 1) g xM.rf 0 (by omega) (by omega) m0 (by omega) (by omega) em0 hp0 xFr.rf (by omega)
    · refine X_aloadn hK (i := 0) 0 dX6_place_24 rfl rfl ?_
      refine X_iloadn hK (i := 3) 3 dX6_place_25 rfl rfl ?_
      refine X_puti hK fl_X6_42_7 hs_a0 (by decide) sl_7_9 (by omega) (by omega) dX6_place_26 (fun g187 hg187 => ?_)
      refine X_iconst hK dX6_place_29 ?_
      refine X_istore hK (i := 6) [(6, .int (iI 0)), (0, .ref a0), (1, .int (iI x1)), (2, .int (iI x2)), (3, .int (iI x3)), (4, .long y4)] dX6_place_30 (by decide) rfl ?_
      have P223 : ∀ (nP223 : Nat) (g218 : xG) (_ : xM [(12300, 0)] S g187 g218) (z217 : Int) (_ : 0 ≤ z217) (_ : z217 ≤ 1) (_ : ∀ k, 0 ≤ k → k < z217 → 0 ≤ xv g218 w3 k) (_ : xFr 12300 S g g218 w3) (_ : 17 - z217 < (nP223 : Int)), X K E 32 [(6, .int (iI z217)), (0, .ref a0), (1, .int (iI x1)), (2, .int (iI x2)), (3, .int (iI x3)), (4, .long y4)] [] S g218 0 0 := by
        intro nP223
        induction nP223 with
        | zero => intro g218 hg218 z217 lz217 uz217 v224 v225 mP223; exact False.elim (by omega)
        | succ nP223 ihP223 =>
          intro g218 hg218 z217 lz217 uz217 v224 v225 mP223
          refine X_iload hK (i := 6) 0 dX6_place_32 rfl ?_
          refine X_aloadn hK (i := 0) 1 dX6_place_34 rfl rfl ?_
          refine X_getK hK fl_X6_9_7 hs_a0 ((hg218 a0 7 0 0 hs_a0 (by decide)).trans ((xs_k hg187 (by decide)).trans en0)) dX6_place_35 ?_
          refine X_icmp_ge hK 61 (by omega) (by omega) dX6_place_38 (by decide) (fun c226 => ?_) (fun c226 => ?_)
          · exact hret _ _ _ _ _ _ dX6_place_61 ⟨rfl, rfl, ⟨x3, ((hg218 a0 7 0 9 hs_a0 (by decide)).trans (xs_s hg187)), by omega, by omega, Or.inr (fun k q1 q2 => v224 k q1 (by omega))⟩, v225⟩ (Nat.le_refl _) (Nat.le_refl _)
          · refine X_aloadn hK (i := 0) 1 dX6_place_41 rfl rfl ?_
            refine X_getK hK fl_X6_22_7 hs_a0 ((hg218 a0 7 0 3 hs_a0 (by decide)).trans ((xs_k hg187 (by decide)).trans ew3)) dX6_place_42 ?_
            refine X_iload hK (i := 6) 0 dX6_place_45 rfl ?_
            refine X_aloadn hK (i := 0) 1 dX6_place_47 rfl rfl ?_
            refine X_getr hK 12500 8 fl_X6_28_7 hs_a0 sl_7_5 dX6_place_48 (fun b227 eb227 hs_b227 => ?_)
            refine X_iload hK (i := 6) 0 dX6_place_51 rfl ?_
            refine X_iald hK hs_b227 (by decide) sl_12500 (by omega) (by omega) dX6_place_53 (fun z228 ez228 lz228 uz228 => ?_)
            refine X_iast hK hs_w3 (by decide) (by decide) sl_12300 (by omega) (by omega) (by omega) (by omega) dX6_place_54 (fun g229 hg229 => ?_)
            refine X_iinc hK (i := 6) (z := z217) (n := 1) 0 [(6, .int (iI (z217 + 1))), (0, .ref a0), (1, .int (iI x1)), (2, .int (iI x2)), (3, .int (iI x3)), (4, .long y4)] dX6_place_55 rfl (by decide) rfl ?_
            refine X_goto hK 32 dX6_place_58 (by decide) ?_
            exact ihP223  g229 (xM_ua (xM.tr xM.rf xLe.rf hg218 (by decide)) hg229 hs_w3 (by decide) (by decide)) (z217 + 1) (by omega) (by omega) (xpre (P := fun x => 0 ≤ x) v224 (fun i9 hi9 h09 => (show xv g229 w3 i9 = xv g218 w3 i9 from by rw [(xv_k (i := i9) hg229 (by omega) (by omega) (by omega))])) (by rw [show xv g229 w3 z217 = _ from (show xv g229 w3 z217 = z228 from by rw [xv_s hg229 (by omega)])]; omega)) (xFr.w v225 hg229) (by omega)
      exact P223 ((17 - 0 : Int).toNat + 1) g187 xM.rf 0 (by omega) (by omega) (fun k q1 q2 => by omega) (xFr.t xFr.rf hg187 hs_a0 (by decide)) (by omega)
  · exact hret _ _ _ _ _ _ dX6_place_15 ⟨rfl, rfl, ⟨m0, em0, by omega, by omega, hp0⟩, xFr.rf⟩ (Nat.le_refl _) (Nat.le_refl _)

set_option maxHeartbeats 4000000 in
set_option maxRecDepth 100000 in
theorem c2_place_0 (l : Launch) (D : va_G) (kA : Nat → ClassId) (b0 : Nat) (t0 : Nat → Nat) (S : xT) (g : xG) (a0 : Nat) (x1 : Int) (x2 : Int) (x3 : Int) (y4 : Int64) (n0 : Int) (w3 : Nat) (m0 : Int) (hs_a0 : S a0 = some (7, 0)) (hx1 : 0 ≤ x1 ∧ x1 ≤ 0) (hx2 : 0 ≤ x2 ∧ x2 ≤ 255) (hx3 : (-2147483648) ≤ x3 ∧ x3 ≤ 2147483647) (hn0 : 1 ≤ n0 ∧ n0 ≤ 8) (en0 : g a0 0 = .int (iI n0)) (ew3 : g a0 3 = .ref w3) (hs_w3 : S w3 = some (12300, 8)) (hm0 : (-2147483648) ≤ m0 ∧ m0 ≤ 2147483647) (em0 : g a0 9 = .int (iI m0)) (hp0 : m0 = -1 ∨ xCo n0 (xv g w3)) : xMt l yX6_place cX6_place 8 none 8 0 0 216 D kA b0 t0 [(12500, 0), (7, 9), (12300, 0)] [.ref a0, .int (iI x1), .int (iI x2), .int (iI x3), .long y4] S g (fun (r : Option Value) (S1 : xT) (g1 : xG) => S = S1 ∧ r = none ∧ (∃ z9 : Int, g1 a0 9 = .int (iI z9) ∧ -2147483648 ≤ z9 ∧ z9 ≤ 2147483647 ∧ (z9 = -1 ∨ xCo n0 (xv g1 w3))) ∧ (xFr 12300 S g g1 w3)) := by
  refine xEnterV (by decide) (by simp [lg_sl, Value.category]) [(0, .ref a0), (1, .int (iI x1)), (2, .int (iI x2)), (3, .int (iI x3)), (4, .long y4)] rfl ?_
  intro K E hK hret _ _ _
  refine X_iloadn hK (i := 3) 3 dX6_place_0 rfl rfl ?_
  refine X_aloadn hK (i := 0) 0 dX6_place_1 rfl rfl ?_
  refine X_getr hK 12600 256 fl_X6_31_7 hs_a0 sl_7_6 dX6_place_2 (fun b1 eb1 hs_b1 => ?_)
  refine X_iloadn hK (i := 2) 2 dX6_place_5 rfl rfl ?_
  refine X_iald hK hs_b1 (by decide) sl_12600 (by omega) (by omega) dX6_place_6 (fun z2 ez2 lz2 uz2 => ?_)
  refine X_iadd hK dX6_place_7 ?_
  refine X_norm (fun z3 ez3 lz3 uz3 => ?_)
  refine X_aloadn hK (i := 0) 0 dX6_place_8 rfl rfl ?_
  refine X_getK hK fl_X6_42_7 hs_a0 em0 dX6_place_9 ?_
  refine X_icmp_gt hK 16 (by omega) (by omega) dX6_place_12 (by decide) (fun c4 => ?_) (fun c4 => ?_)
  · refine X_iloadn hK (i := 1) 1 dX6_place_16 rfl rfl ?_
    refine X_aloadn hK (i := 0) 0 dX6_place_17 rfl rfl ?_
    refine X_getK hK fl_X6_9_7 hs_a0 en0 dX6_place_18 ?_
    refine X_icmp_ne hK 62 (by omega) (by omega) dX6_place_21 (by decide) (fun c5 => ?_) (fun c5 => False.elim (by omega))
    refine X_iconst hK dX6_place_62 ?_
    refine X_istore hK (i := 6) [(6, .int (iI 0)), (0, .ref a0), (1, .int (iI x1)), (2, .int (iI x2)), (3, .int (iI x3)), (4, .long y4)] dX6_place_63 (by decide) rfl ?_
    have P161 : ∀ (nP161 : Nat) (g136 : xG) (_ : xM [(12500, 0), (7, 9), (12300, 0)] S g g136) (z135 : Int) (_ : 0 ≤ z135) (_ : z135 ≤ 8) (q137 : Int) (_ : (-2147483648) ≤ q137) (_ : q137 ≤ 2147483647) (_ : g136 a0 9 = .int (iI q137)) (_ : q137 = -1 ∨ xCo n0 (xv g136 w3)) (_ : xFr 12300 S g g136 w3) (_ : 24 - z135 < (nP161 : Int)), X K E 65 [(6, .int (iI z135)), (0, .ref a0), (1, .int (iI x1)), (2, .int (iI x2)), (3, .int (iI x3)), (4, .long y4)] [] S g136 0 0 := by
      intro nP161
      induction nP161 with
      | zero => intro g136 hg136 z135 lz135 uz135 q137 lq137 uq137 eq137 v162 v163 mP161; exact False.elim (by omega)
      | succ nP161 ihP161 =>
        intro g136 hg136 z135 lz135 uz135 q137 lq137 uq137 eq137 v162 v163 mP161
        refine X_iload hK (i := 6) 0 dX6_place_65 rfl ?_
        refine X_aloadn hK (i := 0) 1 dX6_place_67 rfl rfl ?_
        refine X_getK hK fl_X6_9_7 hs_a0 ((hg136 a0 7 0 0 hs_a0 (by decide)).trans en0) dX6_place_68 ?_
        refine X_icmp_ge hK 141 (by omega) (by omega) dX6_place_71 (by decide) (fun c164 => ?_) (fun c164 => ?_)
        · exact hret _ _ _ _ _ _ dX6_place_141 ⟨rfl, rfl, ⟨q137, eq137, by omega, by omega, v162⟩, v163⟩ (Nat.le_refl _) (Nat.le_refl _)
        · refine X_iloadn hK (i := 1) 2 dX6_place_74 rfl rfl ?_
          refine X_bipush hK dX6_place_75 (by decide) ?_
          refine X_imul hK dX6_place_77 ?_
          refine X_iload hK (i := 6) 0 dX6_place_78 rfl ?_
          refine X_iadd hK dX6_place_80 ?_
          refine X_istore hK (i := 7) [(7, .int (iI ((x1 * 8) + z135))), (6, .int (iI z135)), (0, .ref a0), (1, .int (iI x1)), (2, .int (iI x2)), (3, .int (iI x3)), (4, .long y4)] dX6_place_81 (by decide) rfl ?_
          refine X_lload hK (i := 4) 6 dX6_place_83 rfl ?_
          refine X_iload hK (i := 7) 0 dX6_place_85 rfl ?_
          refine X_lushr hK dX6_place_87 (fun y165 => ?_)
          refine X_lconst hK dX6_place_88 (fun y166 => ?_)
          refine X_land hK dX6_place_89 (fun y167 => ?_)
          refine X_lconst hK dX6_place_90 (fun y168 => ?_)
          refine X_lcmp hK dX6_place_91 (fun z169 lz169 uz169 => ?_)
          refine X_if_ne hK 135 (by omega) dX6_place_92 (by decide) (fun c170 => ?_) (fun c170 => ?_)
          · refine X_iinc hK (i := 6) (z := z135) (n := 1) 1 [(6, .int (iI (z135 + 1))), (7, .int (iI ((x1 * 8) + z135))), (0, .ref a0), (1, .int (iI x1)), (2, .int (iI x2)), (3, .int (iI x3)), (4, .long y4)] dX6_place_135 rfl (by decide) rfl ?_
            refine X_goto hK 65 dX6_place_138 (by decide) ?_
            refine X_lv [(6, .int (iI (z135 + 1))), (0, .ref a0), (1, .int (iI x1)), (2, .int (iI x2)), (3, .int (iI x3)), (4, .long y4)] [0, 2, 3, 4, 5, 6] rfl ?_
            exact ihP161  g136 (xM.tr xM.rf xLe.rf hg136 (by decide)) (z135 + 1) (by omega) (by omega) q137 (by omega) (by omega) eq137 v162 v163 (by omega)
          · refine X_aloadn hK (i := 0) 2 dX6_place_95 rfl rfl ?_
            refine X_getr hK 12500 8 fl_X6_28_7 hs_a0 sl_7_5 dX6_place_96 (fun b171 eb171 hs_b171 => ?_)
            refine X_iloadn hK (i := 1) 3 dX6_place_99 rfl rfl ?_
            refine X_iload hK (i := 6) 1 dX6_place_100 rfl ?_
            refine X_iast hK hs_b171 (by decide) (by decide) sl_12500 (by omega) (by omega) (by omega) (by omega) dX6_place_102 (fun g172 hg172 => ?_)
            refine X_aloadn hK (i := 0) 2 dX6_place_103 rfl rfl ?_
            refine X_iloadn hK (i := 1) 3 dX6_place_104 rfl rfl ?_
            refine X_iconst hK dX6_place_105 ?_
            refine X_iadd hK dX6_place_106 ?_
            refine X_iloadn hK (i := 2) 4 dX6_place_107 rfl rfl ?_
            refine X_iconst hK dX6_place_108 ?_
            refine X_iload hK (i := 6) 1 dX6_place_109 rfl ?_
            refine X_ishl hK dX6_place_111 (fun z173 ez173 lz173 uz173 => ?_)
            have bz173 := xshlB 7 ez173 ⟨lz173, uz173⟩ (by omega) (by decide)
            refine X_ior hK dX6_place_112 (fun z174 ez174 lz174 uz174 => ?_)
            have bz174 := xiorB 8 ez174 ⟨lz174, uz174⟩ (by omega) (by omega) (by decide)
            refine X_iloadn hK (i := 3) 5 dX6_place_113 rfl rfl ?_
            refine X_aloadn hK (i := 0) 2 dX6_place_114 rfl rfl ?_
            refine X_getr hK 12100 64 fl_X6_15_7 hs_a0 sl_7_1 dX6_place_115 (fun b175 eb175 hs_b175 => ?_)
            refine X_iload hK (i := 7) 0 dX6_place_118 rfl ?_
            refine X_iald hK hs_b175 (by decide) sl_12100 (by omega) (by omega) dX6_place_120 (fun z176 ez176 lz176 uz176 => ?_)
            refine X_iadd hK dX6_place_121 ?_
            refine X_norm (fun z177 ez177 lz177 uz177 => ?_)
            refine X_lload hK (i := 4) 6 dX6_place_122 rfl ?_
            refine X_aloadn hK (i := 0) 2 dX6_place_124 rfl rfl ?_
            refine X_getr hK 12802 64 fl_X6_38_7 hs_a0 sl_7_8 dX6_place_125 (fun b178 eb178 hs_b178 => ?_)
            refine X_iload hK (i := 7) 0 dX6_place_128 rfl ?_
            refine X_lald hK hs_b178 (by decide) sl_12802 (by omega) (by omega) dX6_place_130 (fun y179 => ?_)
            refine X_lor hK dX6_place_131 (fun y180 => ?_)
            refine X_callV hK [.int (iI (x1 + 1)), .int (iI z174), .int (iI z177), .long y180] [] lk_X6_80 (c2_place_1 _ _ _ _ _ S g172 a0 (x1 + 1) z174 z177 y180 n0 w3 q137 hs_a0 (by omega) (by omega) (by omega) (by omega) ((xs_a hg172 (xne hs_a0 hs_b171 (by decide))).trans ((hg136 a0 7 0 0 hs_a0 (by decide)).trans en0)) ((xs_a hg172 (xne hs_a0 hs_b171 (by decide))).trans ((hg136 a0 7 0 3 hs_a0 (by decide)).trans ew3)) hs_w3 (by omega) ((xs_a hg172 (xne hs_a0 hs_b171 (by decide))).trans eq137) (by rw [(xv_a hg172 (xne hs_w3 hs_b171 (by decide)))]; exact v162)) hs_a0 ⟨by decide, rfl⟩ dX6_place_132 rfl rfl (by simp [Value.category]) (by decide) (by decide) (by decide) (by decide) (fun r181 S183 g182 pr181 qr181 hg182 => ?_)
            obtain ⟨rfl, rfl, k184, k185⟩ := pr181
            refine X_st [] rfl ?_
            obtain ⟨z186, ez186, lz186, uz186, kz186⟩ := k184
            refine X_iinc hK (i := 6) (z := z135) (n := 1) 1 [(6, .int (iI (z135 + 1))), (7, .int (iI ((x1 * 8) + z135))), (0, .ref a0), (1, .int (iI x1)), (2, .int (iI x2)), (3, .int (iI x3)), (4, .long y4)] dX6_place_135 rfl (by decide) rfl ?_
            refine X_goto hK 65 dX6_place_138 (by decide) ?_
            refine X_lv [(6, .int (iI (z135 + 1))), (0, .ref a0), (1, .int (iI x1)), (2, .int (iI x2)), (3, .int (iI x3)), (4, .long y4)] [0, 2, 3, 4, 5, 6] rfl ?_
            exact ihP161  g182 (xM.tr (xM_ua (xM.tr xM.rf xLe.rf hg136 (by decide)) hg172 hs_b171 (by decide) (by decide)) xLe.rf hg182 (by decide)) (z135 + 1) (by omega) (by omega) z186 (by omega) (by omega) ez186 kz186 (xFr.tr (xFr.t v163 hg172 hs_b171 (by decide)) k185) (by omega)
    exact P161 ((24 - 0 : Int).toNat + 1) g xM.rf 0 (by omega) (by omega) m0 (by omega) (by omega) em0 hp0 xFr.rf (by omega)
  · exact hret _ _ _ _ _ _ dX6_place_15 ⟨rfl, rfl, ⟨m0, em0, by omega, by omega, hp0⟩, xFr.rf⟩ (Nat.le_refl _) (Nat.le_refl _)

set_option maxHeartbeats 4000000 in
set_option maxRecDepth 100000 in
theorem c2_partBest (l : Launch) (D : va_G) (kA : Nat → ClassId) (b0 : Nat) (t0 : Nat → Nat) (S : xT) (g : xG) (a0 : Nat) (x1 : Int) (n0 : Int) (w3 : Nat) (hs_a0 : S a0 = some (7, 0)) (hx1 : (-2147483648) ≤ x1 ∧ x1 ≤ 2147483647) (hn0 : 1 ≤ n0 ∧ n0 ≤ 8) (en0 : g a0 0 = .int (iI n0)) (ew3 : g a0 3 = .ref w3) (hs_w3 : S w3 = some (12300, 8)) : xMt l yX6_partBest cX6_partBest 2 (some .int) 9 0 0 243 D kA b0 t0 [(12802, 0), (12600, 0), (7, 9), (12500, 0), (12300, 0)] [.ref a0, .int (iI x1)] S g (fun (r : Option Value) (S1 : xT) (g1 : xG) => S = S1 ∧ ∃ z : Int, r = some (.int (iI z)) ∧ (-2147483648) ≤ z ∧ z ≤ 2147483647 ∧ (z = -1 ∨ xCo n0 (xv g1 w3)) ∧ (xFr 12300 S g g1 w3)) := by
  refine xEnterI (by decide) (by simp [lg_sl, Value.category]) [(0, .ref a0), (1, .int (iI x1))] rfl ?_
  intro K E hK hret _ _ _
  refine X_aloadn hK (i := 0) 0 dX6_partBest_0 rfl rfl ?_
  refine X_iloadn hK (i := 1) 1 dX6_partBest_1 rfl rfl ?_
  refine X_callV hK [.int (iI x1)] [] lk_X6_73 (c_X6_findClashes _ _ _ _ _ S g a0 x1 hs_a0 (by omega)) hs_a0 ⟨by decide, rfl⟩ dX6_partBest_2 rfl rfl (by simp [Value.category]) (by decide) (by decide) (by decide) (by decide) (fun r1 S3 g2 pr1 qr1 hg2 => ?_)
  obtain ⟨rfl, rfl⟩ := pr1
  refine X_st [] rfl ?_
  refine X_aloadn hK (i := 0) 0 dX6_partBest_5 rfl rfl ?_
  refine X_callV hK [] [] lk_X6_77 (c_X6_findRest _ _ _ _ _ S g2 a0 n0 hs_a0 (by omega) ((hg2 a0 7 0 0 hs_a0 (by decide)).trans en0)) hs_a0 ⟨by decide, rfl⟩ dX6_partBest_6 rfl rfl (by simp [Value.category]) (by decide) (by decide) (by decide) (by decide) (fun r4 S6 g5 pr4 qr4 hg5 => ?_)
  obtain ⟨rfl, rfl⟩ := pr4
  refine X_st [] rfl ?_
  refine X_aloadn hK (i := 0) 0 dX6_partBest_9 rfl rfl ?_
  refine X_iconst hK dX6_partBest_10 ?_
  refine X_puti hK fl_X6_42_7 hs_a0 (by decide) sl_7_9 (by omega) (by omega) dX6_partBest_11 (fun g7 hg7 => ?_)
  refine X_aloadn hK (i := 0) 0 dX6_partBest_14 rfl rfl ?_
  refine X_iconst hK dX6_partBest_15 ?_
  refine X_iconst hK dX6_partBest_16 ?_
  refine X_iconst hK dX6_partBest_17 ?_
  refine X_lconst hK dX6_partBest_18 (fun y8 => ?_)
  refine X_callV hK [.int (iI 0), .int (iI 0), .int (iI 0), .long y8] [] lk_X6_80 (c2_place_0 _ _ _ _ _ S g7 a0 0 0 0 y8 n0 w3 (-1) hs_a0 (by omega) (by omega) (by omega) (by omega) ((xs_k hg7 (by decide)).trans ((hg5 a0 7 0 0 hs_a0 (by decide)).trans ((hg2 a0 7 0 0 hs_a0 (by decide)).trans en0))) ((xs_k hg7 (by decide)).trans ((hg5 a0 7 0 3 hs_a0 (by decide)).trans ((hg2 a0 7 0 3 hs_a0 (by decide)).trans ew3))) hs_w3 (by omega) (xs_s hg7) (Or.inl rfl)) hs_a0 ⟨by decide, rfl⟩ dX6_partBest_19 rfl rfl (by simp [Value.category]) (by decide) (by decide) (by decide) (by decide) (fun r9 S11 g10 pr9 qr9 hg10 => ?_)
  obtain ⟨rfl, rfl, k12, k13⟩ := pr9
  refine X_st [] rfl ?_
  obtain ⟨z14, ez14, lz14, uz14, kz14⟩ := k12
  refine X_aloadn hK (i := 0) 0 dX6_partBest_22 rfl rfl ?_
  refine X_getK hK fl_X6_42_7 hs_a0 ez14 dX6_partBest_23 ?_
  exact hret _ _ _ _ _ _ _ dX6_partBest_26 ⟨rfl, z14, rfl, (by omega), (by omega), (kz14), (xFr.tr (xFr.t (xFr.m (xFr.m xFr.rf hg2 (by decide)) hg5 (by decide)) hg7 hs_a0 (by decide)) k13)⟩ (Nat.le_refl _) (Nat.le_refl _)

set_option maxHeartbeats 4000000 in
set_option maxRecDepth 100000 in
theorem c_X6_hasPeace (l : Launch) (D : va_G) (kA : Nat → ClassId) (b0 : Nat) (t0 : Nat → Nat) (S : xT) (g : xG) (a0 : Nat) (x1 : Int) (n0 : Int) (w3 : Nat) (hs_a0 : S a0 = some (7, 0)) (hx1 : (-2147483648) ≤ x1 ∧ x1 ≤ 2147483647) (hn0 : 0 ≤ n0 ∧ n0 ≤ 8) (en0 : g a0 0 = .int (iI n0)) (ew3 : g a0 3 = .ref w3) (hs_w3 : S w3 = some (12300, 8)) (hp0 : xCo n0 (xv g w3)) : xMt l yX6_hasPeace cX6_hasPeace 4 (some .boolean) 1 0 0 25 D kA b0 t0 [] [.ref a0, .int (iI x1)] S g (fun (r : Option Value) (S1 : xT) (g1 : xG) => S = S1 ∧ g = g1 ∧ ∃ z : Int, r = some (.int (iI z)) ∧ 0 ≤ z ∧ z ≤ 1) := by
  refine xEnterZ (by decide) (by simp [lg_sl, Value.category]) [(0, .ref a0), (1, .int (iI x1))] rfl ?_
  intro K E hK hret _ _ _
  refine X_iconst hK dX6_hasPeace_0 ?_
  refine X_istoren hK (i := 2) [(2, .int (iI 0)), (0, .ref a0), (1, .int (iI x1))] dX6_hasPeace_1 rfl (by decide) rfl ?_
  have P475 : ∀ (nP475 : Nat) (z396 : Int) (_ : 0 ≤ z396) (_ : z396 ≤ 8) (_ : 24 - z396 < (nP475 : Int)), X K E 2 [(2, .int (iI z396)), (0, .ref a0), (1, .int (iI x1))] [] S g 0 0 := by
    intro nP475
    induction nP475 with
    | zero => intro z396 lz396 uz396 mP475; exact False.elim (by omega)
    | succ nP475 ihP475 =>
      intro z396 lz396 uz396 mP475
      refine X_iloadn hK (i := 2) 0 dX6_hasPeace_2 rfl rfl ?_
      refine X_aloadn hK (i := 0) 1 dX6_hasPeace_3 rfl rfl ?_
      refine X_getK hK fl_X6_9_7 hs_a0 en0 dX6_hasPeace_4 ?_
      refine X_icmp_ge hK 56 (by omega) (by omega) dX6_hasPeace_7 (by decide) (fun c476 => ?_) (fun c476 => ?_)
      · refine X_iconst hK dX6_hasPeace_56 ?_
        exact hret _ _ _ _ _ _ _ dX6_hasPeace_57 (by omega) (by omega) ⟨rfl, rfl, 1, rfl, (by omega), (by omega)⟩ (Nat.le_refl _) (Nat.le_refl _)
      · refine X_iconst hK dX6_hasPeace_10 ?_
        refine X_istoren hK (i := 3) [(3, .int (iI 0)), (2, .int (iI z396)), (0, .ref a0), (1, .int (iI x1))] dX6_hasPeace_11 rfl (by decide) rfl ?_
        have P543 : ∀ (nP543 : Nat) (z532 : Int) (_ : 0 ≤ z532) (_ : z532 ≤ 8) (_ : 24 - z532 < (nP543 : Int)), X K E 12 [(3, .int (iI z532)), (2, .int (iI z396)), (0, .ref a0), (1, .int (iI x1))] [] S g 0 0 := by
          intro nP543
          induction nP543 with
          | zero => intro z532 lz532 uz532 mP543; exact False.elim (by omega)
          | succ nP543 ihP543 =>
            intro z532 lz532 uz532 mP543
            refine X_iloadn hK (i := 3) 0 dX6_hasPeace_12 rfl rfl ?_
            refine X_aloadn hK (i := 0) 2 dX6_hasPeace_13 rfl rfl ?_
            refine X_getK hK fl_X6_9_7 hs_a0 en0 dX6_hasPeace_14 ?_
            refine X_icmp_ge hK 50 (by omega) (by omega) dX6_hasPeace_17 (by decide) (fun c544 => ?_) (fun c544 => ?_)
            · refine X_iinc hK (i := 2) (z := z396) (n := 1) 1 [(2, .int (iI (z396 + 1))), (3, .int (iI z532)), (0, .ref a0), (1, .int (iI x1))] dX6_hasPeace_50 rfl (by decide) rfl ?_
              refine X_goto hK 2 dX6_hasPeace_53 (by decide) ?_
              refine X_lv [(2, .int (iI (z396 + 1))), (0, .ref a0), (1, .int (iI x1))] [0, 2, 3] rfl ?_
              exact ihP475  (z396 + 1) (by omega) (by omega) (by omega)
            · refine X_aloadn hK (i := 0) 2 dX6_hasPeace_20 rfl rfl ?_
              refine X_iloadn hK (i := 2) 1 dX6_hasPeace_21 rfl rfl ?_
              refine X_aloadn hK (i := 0) 2 dX6_hasPeace_22 rfl rfl ?_
              refine X_getK hK fl_X6_22_7 hs_a0 ew3 dX6_hasPeace_23 ?_
              refine X_iloadn hK (i := 2) 1 dX6_hasPeace_26 rfl rfl ?_
              refine X_iald hK hs_w3 (by decide) sl_12300 (by omega) (by omega) dX6_hasPeace_27 (fun z545 ez545 lz545 uz545 => ?_)
              have hch546 : 0 ≤ z545 := by have h9 := hp0 z396 (by omega) (by omega); rw [xv_e (j := z396) ez545 (by omega)] at h9; exact h9
              refine X_iloadn hK (i := 3) 0 dX6_hasPeace_28 rfl rfl ?_
              refine X_aloadn hK (i := 0) 2 dX6_hasPeace_29 rfl rfl ?_
              refine X_getK hK fl_X6_22_7 hs_a0 ew3 dX6_hasPeace_30 ?_
              refine X_iloadn hK (i := 3) 0 dX6_hasPeace_33 rfl rfl ?_
              refine X_iald hK hs_w3 (by decide) sl_12300 (by omega) (by omega) dX6_hasPeace_34 (fun z547 ez547 lz547 uz547 => ?_)
              have hch548 : 0 ≤ z547 := by have h9 := hp0 z532 (by omega) (by omega); rw [xv_e (j := z532) ez547 (by omega)] at h9; exact h9
              refine X_iloadn hK (i := 1) 3 dX6_hasPeace_35 rfl rfl ?_
              refine X_callV hK [.int (iI z396), .int (iI z545), .int (iI z532), .int (iI z547), .int (iI x1)] [] lk_X6_50 (c_X6_wouldFight _ _ _ _ _ S g a0 z396 z545 z532 z547 x1 hs_a0 (by omega) (by omega) (by omega) (by omega) (by omega)) hs_a0 ⟨by decide, rfl⟩ dX6_hasPeace_36 rfl rfl (by simp [Value.category]) (by decide) (by decide) (by decide) (by decide) (fun r549 S551 g550 pr549 qr549 hg550 => ?_)
              obtain ⟨rfl, rfl, z552, rfl, lz552, uz552⟩ := pr549
              refine X_st [.int (iI z552)] rfl ?_
              refine X_if_eq hK 44 (by omega) dX6_hasPeace_39 (by decide) (fun c553 => ?_) (fun c553 => ?_)
              · refine X_iinc hK (i := 3) (z := z532) (n := 1) 0 [(3, .int (iI (z532 + 1))), (2, .int (iI z396)), (0, .ref a0), (1, .int (iI x1))] dX6_hasPeace_44 rfl (by decide) rfl ?_
                refine X_goto hK 12 dX6_hasPeace_47 (by decide) ?_
                exact ihP543  (z532 + 1) (by omega) (by omega) (by omega)
              · refine X_iconst hK dX6_hasPeace_42 ?_
                exact hret _ _ _ _ _ _ _ dX6_hasPeace_43 (by omega) (by omega) ⟨rfl, rfl, 0, rfl, (by omega), (by omega)⟩ (Nat.le_refl _) (Nat.le_refl _)
        exact P543 ((24 - 0 : Int).toNat + 1) 0 (by omega) (by omega) (by omega)
  exact P475 ((24 - 0 : Int).toNat + 1) 0 (by omega) (by omega) (by omega)

set_option maxHeartbeats 4000000 in
set_option maxRecDepth 100000 in
theorem c2_learn (l : Launch) (D : va_G) (kA : Nat → ClassId) (b0 : Nat) (t0 : Nat → Nat) (S : xT) (g : xG) (a0 : Nat) (x1 : Int) (a2 : Nat) (hs_a0 : S a0 = some (7, 0)) (hx1 : 1 ≤ x1 ∧ x1 ≤ 8) (hs_a2 : S a2 = some (10, 0)) : xMt l yX6_learn cX6_learn 6 none 0 0 0 0 D kA b0 t0 [(7, 0), (12100, 0), (12200, 0)] [.ref a0, .int (iI x1), .ref a2] S g (fun (r : Option Value) (S1 : xT) (g1 : xG) => S = S1 ∧ r = none ∧ (g1 a0 0 = .int (iI x1)) ∧ (xFr 7 S g g1 a0)) := by
  refine xEnterV (by decide) (by simp [lg_sl, Value.category]) [(0, .ref a0), (1, .int (iI x1)), (2, .ref a2)] rfl ?_
  intro K E hK hret _ _ _
  refine X_aloadn hK (i := 0) 0 dX6_learn_0 rfl rfl ?_
  refine X_iloadn hK (i := 1) 1 dX6_learn_1 rfl rfl ?_
  refine X_puti hK fl_X6_9_7 hs_a0 (by decide) sl_7_0 (by omega) (by omega) dX6_learn_2 (fun g1 hg1 => ?_)
  refine X_iconst hK dX6_learn_5 ?_
  refine X_istoren hK (i := 3) [(3, .int (iI 0)), (0, .ref a0), (1, .int (iI x1)), (2, .ref a2)] dX6_learn_6 rfl (by decide) rfl ?_
  have P822 : ∀ (nP822 : Nat) (g684 : xG) (_ : xM [(12200, 0), (12100, 0)] S g1 g684) (z683 : Int) (_ : 0 ≤ z683) (_ : z683 ≤ 8) (_ : 24 - z683 < (nP822 : Int)), X K E 7 [(3, .int (iI z683)), (0, .ref a0), (1, .int (iI x1)), (2, .ref a2)] [] S g684 0 0 := by
    intro nP822
    induction nP822 with
    | zero => intro g684 hg684 z683 lz683 uz683 mP822; exact False.elim (by omega)
    | succ nP822 ihP822 =>
      intro g684 hg684 z683 lz683 uz683 mP822
      refine X_iloadn hK (i := 3) 0 dX6_learn_7 rfl rfl ?_
      refine X_aloadn hK (i := 0) 1 dX6_learn_8 rfl rfl ?_
      refine X_getK hK fl_X6_9_7 hs_a0 ((hg684 a0 7 0 0 hs_a0 (by decide)).trans (xs_s hg1)) dX6_learn_9 ?_
      refine X_icmp_ge hK 98 (by omega) (by omega) dX6_learn_12 (by decide) (fun c823 => ?_) (fun c823 => ?_)
      · exact hret _ _ _ _ _ _ dX6_learn_98 ⟨rfl, rfl, ((hg684 a0 7 0 0 hs_a0 (by decide)).trans (xs_s hg1)), (xFr.m (xFr.w xFr.rf hg1) hg684 (by decide))⟩ (Nat.le_refl _) (Nat.le_refl _)
      · refine X_iconst hK dX6_learn_15 ?_
        refine X_istore hK (i := 4) [(4, .int (iI 0)), (3, .int (iI z683)), (0, .ref a0), (1, .int (iI x1)), (2, .ref a2)] dX6_learn_16 (by decide) rfl ?_
        have P940 : ∀ (nP940 : Nat) (g920 : xG) (_ : xM [(12200, 0), (12100, 0)] S g684 g920) (z919 : Int) (_ : 0 ≤ z919) (_ : z919 ≤ 8) (_ : 24 - z919 < (nP940 : Int)), X K E 18 [(4, .int (iI z919)), (3, .int (iI z683)), (0, .ref a0), (1, .int (iI x1)), (2, .ref a2)] [] S g920 0 0 := by
          intro nP940
          induction nP940 with
          | zero => intro g920 hg920 z919 lz919 uz919 mP940; exact False.elim (by omega)
          | succ nP940 ihP940 =>
            intro g920 hg920 z919 lz919 uz919 mP940
            refine X_iload hK (i := 4) 0 dX6_learn_18 rfl ?_
            refine X_aloadn hK (i := 0) 2 dX6_learn_20 rfl rfl ?_
            refine X_getK hK fl_X6_9_7 hs_a0 ((hg920 a0 7 0 0 hs_a0 (by decide)).trans ((hg684 a0 7 0 0 hs_a0 (by decide)).trans (xs_s hg1))) dX6_learn_21 ?_
            refine X_icmp_ge hK 92 (by omega) (by omega) dX6_learn_24 (by decide) (fun c941 => ?_) (fun c941 => ?_)
            · refine X_iinc hK (i := 3) (z := z683) (n := 1) 1 [(3, .int (iI (z683 + 1))), (4, .int (iI z919)), (0, .ref a0), (1, .int (iI x1)), (2, .ref a2)] dX6_learn_92 rfl (by decide) rfl ?_
              refine X_goto hK 7 dX6_learn_95 (by decide) ?_
              refine X_lv [(3, .int (iI (z683 + 1))), (0, .ref a0), (1, .int (iI x1)), (2, .ref a2)] [0, 2, 3, 4] rfl ?_
              exact ihP822  g920 (xM.tr (xM.tr xM.rf xLe.rf hg684 (by decide)) xLe.rf hg920 (by decide)) (z683 + 1) (by omega) (by omega) (by omega)
            · refine X_iloadn hK (i := 3) 1 dX6_learn_27 rfl rfl ?_
              refine X_aloadn hK (i := 0) 2 dX6_learn_28 rfl rfl ?_
              refine X_getK hK fl_X6_9_7 hs_a0 ((hg920 a0 7 0 0 hs_a0 (by decide)).trans ((hg684 a0 7 0 0 hs_a0 (by decide)).trans (xs_s hg1))) dX6_learn_29 ?_
              refine X_imul hK dX6_learn_32 ?_
              have hm951 := xmulB (a := z683) (b := x1) (A := 7) (B := 8) (by omega) (by omega) (by omega) (by omega)
              refine X_iload hK (i := 4) 0 dX6_learn_33 rfl ?_
              refine X_iadd hK dX6_learn_35 ?_
              refine X_istore hK (i := 5) [(5, .int (iI ((z683 * x1) + z919))), (4, .int (iI z919)), (3, .int (iI z683)), (0, .ref a0), (1, .int (iI x1)), (2, .ref a2)] dX6_learn_36 (by decide) rfl ?_
              refine X_aloadn hK (i := 0) 3 dX6_learn_38 rfl rfl ?_
              refine X_getr hK 12100 64 fl_X6_15_7 hs_a0 sl_7_1 dX6_learn_39 (fun b952 eb952 hs_b952 => ?_)
              refine X_iloadn hK (i := 3) 2 dX6_learn_42 rfl rfl ?_
              refine X_bipush hK dX6_learn_43 (by decide) ?_
              refine X_imul hK dX6_learn_45 ?_
              refine X_iload hK (i := 4) 1 dX6_learn_46 rfl ?_
              refine X_iadd hK dX6_learn_48 ?_
              refine X_aloadn hK (i := 2) 5 dX6_learn_49 rfl rfl ?_
              refine X_getr hK 13500 420 fl_X6_45_10 hs_a2 sl_10_0 dX6_learn_50 (fun b953 eb953 hs_b953 => ?_)
              refine X_iload hK (i := 5) 0 dX6_learn_53 rfl ?_
              refine X_iald hK hs_b953 (by decide) sl_13500 (by omega) (by omega) dX6_learn_55 (fun z954 ez954 lz954 uz954 => ?_)
              refine X_iast hK hs_b952 (by decide) (by decide) sl_12100 (by omega) (by omega) (by omega) (by omega) dX6_learn_56 (fun g955 hg955 => ?_)
              refine X_aloadn hK (i := 0) 3 dX6_learn_57 rfl rfl ?_
              refine X_getr hK 12200 64 fl_X6_19_7 hs_a0 sl_7_2 dX6_learn_58 (fun b956 eb956 hs_b956 => ?_)
              refine X_iloadn hK (i := 3) 2 dX6_learn_61 rfl rfl ?_
              refine X_bipush hK dX6_learn_62 (by decide) ?_
              refine X_imul hK dX6_learn_64 ?_
              refine X_iload hK (i := 4) 1 dX6_learn_65 rfl ?_
              refine X_iadd hK dX6_learn_67 ?_
              refine X_aloadn hK (i := 2) 5 dX6_learn_68 rfl rfl ?_
              refine X_getK hK fl_X6_45_10 hs_a2 ((xs_a hg955 (xne hs_a2 hs_b952 (by decide))).trans eb953) dX6_learn_69 ?_
              refine X_aloadn hK (i := 0) 3 dX6_learn_72 rfl rfl ?_
              refine X_getK hK fl_X6_9_7 hs_a0 ((xs_a hg955 (xne hs_a0 hs_b952 (by decide))).trans ((hg920 a0 7 0 0 hs_a0 (by decide)).trans ((hg684 a0 7 0 0 hs_a0 (by decide)).trans (xs_s hg1)))) dX6_learn_73 ?_
              refine X_aloadn hK (i := 0) 3 dX6_learn_76 rfl rfl ?_
              refine X_getK hK fl_X6_9_7 hs_a0 ((xs_a hg955 (xne hs_a0 hs_b952 (by decide))).trans ((hg920 a0 7 0 0 hs_a0 (by decide)).trans ((hg684 a0 7 0 0 hs_a0 (by decide)).trans (xs_s hg1)))) dX6_learn_77 ?_
              refine X_imul hK dX6_learn_80 ?_
              have hm957 := xmulB (a := x1) (b := x1) (A := 8) (B := 8) (by omega) (by omega) (by omega) (by omega)
              refine X_iload hK (i := 5) 0 dX6_learn_81 rfl ?_
              refine X_iadd hK dX6_learn_83 ?_
              refine X_iald hK hs_b953 (by decide) sl_13500 (by omega) (by omega) dX6_learn_84 (fun z958 ez958 lz958 uz958 => ?_)
              refine X_iast hK hs_b956 (by decide) (by decide) sl_12200 (by omega) (by omega) (by omega) (by omega) dX6_learn_85 (fun g959 hg959 => ?_)
              refine X_iinc hK (i := 4) (z := z919) (n := 1) 1 [(4, .int (iI (z919 + 1))), (5, .int (iI ((z683 * x1) + z919))), (3, .int (iI z683)), (0, .ref a0), (1, .int (iI x1)), (2, .ref a2)] dX6_learn_86 rfl (by decide) rfl ?_
              refine X_goto hK 18 dX6_learn_89 (by decide) ?_
              refine X_lv [(4, .int (iI (z919 + 1))), (3, .int (iI z683)), (0, .ref a0), (1, .int (iI x1)), (2, .ref a2)] [0, 2, 3, 4, 5] rfl ?_
              exact ihP940  g959 (xM_ua (xM_ua (xM.tr xM.rf xLe.rf hg920 (by decide)) hg955 hs_b952 (by decide) (by decide)) hg959 hs_b956 (by decide) (by decide)) (z919 + 1) (by omega) (by omega) (by omega)
        exact P940 ((24 - 0 : Int).toNat + 1) g684 xM.rf 0 (by omega) (by omega) (by omega)
  exact P822 ((24 - 0 : Int).toNat + 1) g1 xM.rf 0 (by omega) (by omega) (by omega)
