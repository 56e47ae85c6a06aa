
def xLgr (L : Nat → Int → Int) (k : Int) : Prop := (0 ≤ L 0 k ∧ L 0 k ≤ 3) ∧ (0 ≤ L 1 k ∧ L 1 k ≤ 9) ∧ (0 ≤ L 2 k ∧ L 2 k ≤ 399)
def xLgC (n : Int) (pl cp tl : Int → Int) (L : Nat → Int → Int) : Prop := ∀ k : Int, 0 ≤ k → k < n → pl k = (4 * L 2 k + L 0 k) * 10 + L 1 k ∧ cp k = L 3 k ∧ tl k = L 4 k ∧ xLgr L k
def xLgM (n : Int) (p c d cn t : Int → Int) (L : Nat → Int → Int) : Prop := ∀ k : Int, 0 ≤ k → k < n → p k = L 0 k ∧ c k = L 1 k ∧ d k = L 2 k ∧ cn k = L 3 k ∧ t k = L 4 k ∧ xLgr L k
def xylg (L : Nat → Int → Int) (n p c d cn t : Int) : Nat → Int → Int := fun f k => if k = n then (if f = 0 then p else if f = 1 then c else if f = 2 then d else if f = 3 then cn else t) else L f k
theorem xylg.o {L : Nat → Int → Int} {n p c d cn t k : Int} {f : Nat} (h : k ≠ n) : xylg L n p c d cn t f k = L f k := if_neg h
theorem xLgC.add {n p c d cn t : Int} {pl cp tl pl' cp' tl' : Int → Int} {L : Nat → Int → Int} (h : xLgC n pl cp tl L) (p1 : pl' n = (4 * d + p) * 10 + c) (p2 : ∀ i : Int, 0 ≤ i → i ≠ n → pl' i = pl i) (c1 : cp' n = cn) (c2 : ∀ i : Int, 0 ≤ i → i ≠ n → cp' i = cp i) (t1 : tl' n = t) (t2 : ∀ i : Int, 0 ≤ i → i ≠ n → tl' i = tl i) (r1 : 0 ≤ p ∧ p ≤ 3) (r2 : 0 ≤ c ∧ c ≤ 9) (r3 : 0 ≤ d ∧ d ≤ 399) : xLgC (n + 1) pl' cp' tl' (xylg L n p c d cn t) := fun k q1 q2 => by
  by_cases e : k = n
  · subst e
    have y : ∀ f : Nat, xylg L k p c d cn t f k = (if f = 0 then p else if f = 1 then c else if f = 2 then d else if f = 3 then cn else t) := fun f => if_pos rfl
    unfold xLgr
    rw [y 0, y 1, y 2, y 3, y 4]
    exact ⟨p1, c1, t1, r1, r2, r3⟩
  · unfold xLgr
    rw [xylg.o e, xylg.o e, xylg.o e, xylg.o e, xylg.o e, p2 k q1 e, c2 k q1 e, t2 k q1 e]
    exact h k q1 (by omega)
theorem xLgM.add {n p c d cn t : Int} {pa co da cp tl pa' co' da' cp' tl' : Int → Int} {L : Nat → Int → Int} (h : xLgM n pa co da cp tl L) (p1 : pa' n = p) (p2 : ∀ i : Int, 0 ≤ i → i ≠ n → pa' i = pa i) (o1 : co' n = c) (o2 : ∀ i : Int, 0 ≤ i → i ≠ n → co' i = co i) (d1 : da' n = d) (d2 : ∀ i : Int, 0 ≤ i → i ≠ n → da' i = da i) (c1 : cp' n = cn) (c2 : ∀ i : Int, 0 ≤ i → i ≠ n → cp' i = cp i) (t1 : tl' n = t) (t2 : ∀ i : Int, 0 ≤ i → i ≠ n → tl' i = tl i) (r1 : 0 ≤ p ∧ p ≤ 3) (r2 : 0 ≤ c ∧ c ≤ 9) (r3 : 0 ≤ d ∧ d ≤ 399) : xLgM (n + 1) pa' co' da' cp' tl' (xylg L n p c d cn t) := fun k q1 q2 => by
  by_cases e : k = n
  · subst e
    have y : ∀ f : Nat, xylg L k p c d cn t f k = (if f = 0 then p else if f = 1 then c else if f = 2 then d else if f = 3 then cn else t) := fun f => if_pos rfl
    unfold xLgr
    rw [y 0, y 1, y 2, y 3, y 4]
    exact ⟨p1, o1, d1, c1, t1, r1, r2, r3⟩
  · unfold xLgr
    rw [xylg.o e, xylg.o e, xylg.o e, xylg.o e, xylg.o e, p2 k q1 e, o2 k q1 e, d2 k q1 e, c2 k q1 e, t2 k q1 e]
    exact h k q1 (by omega)
def xlst9 (L : Nat → Int → Int) (t p c d : Int) : Nat → Int
  | 0 => -1
  | m + 1 => if L 4 (m : Int) ≤ t ∧ L 0 (m : Int) = p ∧ L 1 (m : Int) = c ∧ L 2 (m : Int) = d then (m : Int) else xlst9 L t p c d m
theorem xlst9.y {L : Nat → Int → Int} {t p c d k : Int} (hk : 0 ≤ k) (h : L 4 k ≤ t ∧ L 0 k = p ∧ L 1 k = c ∧ L 2 k = d) : xlst9 L t p c d (k + 1).toNat = k := by
  rw [show (k + 1).toNat = k.toNat + 1 by omega]
  have e : ((k.toNat : Nat) : Int) = k := by omega
  show (if L 4 ((k.toNat : Nat) : Int) ≤ t ∧ _ then _ else _) = k
  rw [e, if_pos h]
theorem xlst9.n {L : Nat → Int → Int} {t p c d k : Int} (hk : 0 ≤ k) (h : ¬ (L 4 k ≤ t ∧ L 0 k = p ∧ L 1 k = c ∧ L 2 k = d)) : xlst9 L t p c d (k + 1).toNat = xlst9 L t p c d k.toNat := by
  rw [show (k + 1).toNat = k.toNat + 1 by omega]
  have e : ((k.toNat : Nat) : Int) = k := by omega
  show (if L 4 ((k.toNat : Nat) : Int) ≤ t ∧ _ then _ else _) = _
  rw [e, if_neg h]
theorem xlst9.r {L : Nat → Int → Int} {t p c d : Int} : ∀ n : Nat, -1 ≤ xlst9 L t p c d n ∧ xlst9 L t p c d n < n := by
  intro n
  induction n with
  | zero => exact ⟨by show (-1 : Int) ≤ -1; omega, by show (-1 : Int) < ((0 : Nat) : Int); omega⟩
  | succ m ih =>
    show -1 ≤ (if _ then _ else _) ∧ (if _ then _ else _) < _
    split
    · omega
    · omega
def xmt9 (Y : Nat → Int → Int) (p c d k : Int) : Int := if Y 5 k = d ∧ Y 1 k = p ∧ Y 2 k = c then 1 else 0
def xcb9 (Y : Nat → Int → Int) (nu : Nat) (p c d : Int) : Int := xwp (xzm (fun k => if Y 5 k = d ∧ Y 1 k = p ∧ Y 2 k = c then Y 9 k else 0) nu)
def xct9 (L : Nat → Int → Int) (n : Nat) (t p c d : Int) : Int := if xlst9 L t p c d n = -1 then 0 else L 3 (xlst9 L t p c d n)
def xfm9 (Y : Nat → Int → Int) (p c d i : Int) : Int := xzm (xmt9 Y p c d) i.toNat
def xfl9 (L Y : Nat → Int → Int) (n nu : Nat) (t k : Int) : Int := if xlst9 L t (L 0 k) (L 1 k) (L 2 k) n = k ∧ xcb9 Y nu (L 0 k) (L 1 k) (L 2 k) < L 3 k then 1 else 0
def xsf9 (L Y : Nat → Int → Int) (n nu : Nat) (td t i : Int) : Int := if Y 5 i < td ∧ Y 5 i ≤ t ∧ xfm9 Y (Y 1 i) (Y 2 i) (Y 5 i) i = 0 then (if 0 < xwp (xcb9 Y nu (Y 1 i) (Y 2 i) (Y 5 i) - xct9 L n t (Y 1 i) (Y 2 i) (Y 5 i)) then xwp (xcb9 Y nu (Y 1 i) (Y 2 i) (Y 5 i) - xct9 L n t (Y 1 i) (Y 2 i) (Y 5 i)) else 0) else 0
theorem xmt9.b {Y : Nat → Int → Int} {p c d k : Int} : xmt9 Y p c d k = 0 ∨ xmt9 Y p c d k = 1 := by
  unfold xmt9
  split
  · exact Or.inr rfl
  · exact Or.inl rfl
theorem xzm.s1 {f : Int → Int} {i : Int} (hi : 0 ≤ i) : xzm f (i + 1).toNat = xzm f i.toNat + f i := by
  rw [show (i + 1).toNat = i.toNat + 1 by omega]
  show xzm f i.toNat + f ((i.toNat : Nat) : Int) = _
  rw [show ((i.toNat : Nat) : Int) = i by omega]
theorem xfm9.nn {Y : Nat → Int → Int} {p c d : Int} : ∀ n : Nat, 0 ≤ xzm (xmt9 Y p c d) n := by
  intro n
  induction n with
  | zero => exact Int.le_refl _
  | succ m ih =>
    show 0 ≤ xzm (xmt9 Y p c d) m + xmt9 Y p c d (m : Int)
    rcases xmt9.b (Y := Y) (p := p) (c := c) (d := d) (k := (m : Int)) with e | e <;> omega
theorem xfm9.mono {Y : Nat → Int → Int} {p c d : Int} {m : Nat} : ∀ k : Nat, xzm (xmt9 Y p c d) m ≤ xzm (xmt9 Y p c d) (m + k) := by
  intro k
  induction k with
  | zero => exact Int.le_refl _
  | succ k ih =>
    show _ ≤ xzm (xmt9 Y p c d) (m + k) + xmt9 Y p c d ((m + k : Nat) : Int)
    rcases xmt9.b (Y := Y) (p := p) (c := c) (d := d) (k := ((m + k : Nat) : Int)) with e | e <;> omega
theorem xfm9.pos {Y : Nat → Int → Int} {p c d i j : Int} (hj : 0 ≤ j ∧ j < i) (h : Y 5 j = d ∧ Y 1 j = p ∧ Y 2 j = c) : 1 ≤ xfm9 Y p c d i := by
  unfold xfm9
  have a := xzm.s1 (f := xmt9 Y p c d) hj.1
  have b := xfm9.nn (Y := Y) (p := p) (c := c) (d := d) j.toNat
  have e : xmt9 Y p c d j = 1 := if_pos h
  have m := xfm9.mono (Y := Y) (p := p) (c := c) (d := d) (m := (j + 1).toNat) (i.toNat - (j + 1).toNat)
  rw [show (j + 1).toNat + (i.toNat - (j + 1).toNat) = i.toNat by omega] at m
  omega
theorem xpl9 {p c d p' c' d' : Int} (r1 : 0 ≤ p ∧ p ≤ 3) (r2 : 0 ≤ c ∧ c ≤ 9) (s1 : 0 ≤ p' ∧ p' ≤ 3) (s2 : 0 ≤ c' ∧ c' ≤ 9) : (4 * d + p) * 10 + c = (4 * d' + p') * 10 + c' ↔ d = d' ∧ p = p' ∧ c = c' := by omega
def xLGW (S : xT) (g : xG) (lpl lcp ltl cpa cco cda ccn cto : Nat) (n : Int) : Prop := (S lpl = some (11700, 60) ∧ S lcp = some (11800, 60) ∧ S ltl = some (11900, 60) ∧ S cpa = some (17600, 60) ∧ S cco = some (17700, 60) ∧ S cda = some (17800, 60) ∧ S ccn = some (17900, 60) ∧ S cto = some (18000, 60)) ∧ ∃ L : Nat → Int → Int, xLgC n (xv g lpl) (xv g lcp) (xv g ltl) L ∧ xLgM n (xv g cpa) (xv g cco) (xv g cda) (xv g ccn) (xv g cto) L
theorem xLGW_m {S S1 : xT} {g g1 : xG} {lpl lcp ltl cpa cco cda ccn cto : Nat} {n : Int} {L : List (Nat × Nat)} (h : xLGW S g lpl lcp ltl cpa cco cda ccn cto n) (hm : xM L S g g1) (hle : xLe S S1) (hL : ∀ x ∈ [(11700, 0), (11800, 0), (11900, 0), (17600, 0), (17700, 0), (17800, 0), (17900, 0), (18000, 0)], x ∉ L) : xLGW S1 g1 lpl lcp ltl cpa cco cda ccn cto n := by
  obtain ⟨⟨slpl, slcp, sltl, scpa, scco, scda, sccn, scto⟩, L9, h1, h2⟩ := h
  refine ⟨⟨hle _ _ slpl, hle _ _ slcp, hle _ _ sltl, hle _ _ scpa, hle _ _ scco, hle _ _ scda, hle _ _ sccn, hle _ _ scto⟩, L9, ?_, ?_⟩
  · rw [xv_m hm slpl (by decide) (hL _ (by decide)), xv_m hm slcp (by decide) (hL _ (by decide)), xv_m hm sltl (by decide) (hL _ (by decide))]; exact h1
  · rw [xv_m hm scpa (by decide) (hL _ (by decide)), xv_m hm scco (by decide) (hL _ (by decide)), xv_m hm scda (by decide) (hL _ (by decide)), xv_m hm sccn (by decide) (hL _ (by decide)), xv_m hm scto (by decide) (hL _ (by decide))]; exact h2
set_option maxHeartbeats 4000000 in
set_option maxRecDepth 100000 in
theorem m_lastAsOf (l : Launch) (D : va_G) (kA : Nat → ClassId) (b0 : Nat) (t0 : Nat → Nat) (S : xT) (g : xG) (a0 : Nat) (x1 : Int) (x2 : Int) (lpl : Nat) (lcp : Nat) (ltl : Nat) (nc : Int) (L : Nat → Int → Int) (qp : Int) (qc : Int) (qd : Int) (hs_a0 : S a0 = some (5, 0)) (hx1 : (-2147483648) ≤ x1 ∧ x1 ≤ 2147483647) (hx2 : (-2147483648) ≤ x2 ∧ x2 ≤ 2147483647) (elpl : g a0 0 = .ref lpl) (hs_lpl : S lpl = some (11700, 60)) (elcp : g a0 1 = .ref lcp) (hs_lcp : S lcp = some (11800, 60)) (eltl : g a0 2 = .ref ltl) (hs_ltl : S ltl = some (11900, 60)) (hnc : 0 ≤ nc ∧ nc ≤ 60) (enc : g a0 3 = .int (iI nc)) (hp0 : xLgC nc (xv g lpl) (xv g lcp) (xv g ltl) L) (hp1 : x2 = (4 * qd + qp) * 10 + qc) (hp2 : (0 ≤ qp ∧ qp ≤ 3) ∧ (0 ≤ qc ∧ qc ≤ 9)) : xMt l yX4_lastAsOf cX4_lastAsOf 4 (some .int) 0 0 0 0 D kA b0 t0 [] [.ref a0, .int (iI x1), .int (iI x2)] S g (fun (r : Option Value) (S1 : xT) (g1 : xG) => S = S1 ∧ g = g1 ∧ ∃ z : Int, r = some (.int (iI z)) ∧ (-1) ≤ z ∧ z ≤ 59 ∧ (z = xlst9 L x1 qp qc qd nc.toNat)) := by
  refine xEnterI (by decide) (by simp [lg_sl, Value.category]) [(0, .ref a0), (1, .int (iI x1)), (2, .int (iI x2))] rfl ?_
  intro K E hK hret _ _ _
  refine X_aloadn hK (i := 0) 0 kd24_3.2.2.2.2.2.2.2.2.1 rfl rfl ?_
  refine X_getK hK fl_X4_21_5 hs_a0 enc kd24_3.2.2.2.2.2.2.2.2.2.1 ?_
  refine X_iconst hK kd24_3.2.2.2.2.2.2.2.2.2.2.1 ?_
  refine X_isub hK kd24_3.2.2.2.2.2.2.2.2.2.2.2 ?_
  refine X_istoren hK (i := 3) [(3, .int (iI (nc - 1))), (0, .ref a0), (1, .int (iI x1)), (2, .int (iI x2))] kd24_4.1 rfl (by decide) rfl ?_
  have P33 : ∀ (nP33 : Nat) (z25 : Int) (_ : (-1) ≤ z25) (_ : z25 ≤ 59) (_ : xlst9 L x1 qp qc qd (z25 + 1).toNat = xlst9 L x1 qp qc qd nc.toNat) (_ : z25 < nc) (_ : z25 + 10 < (nP33 : Int)), X K E 7 [(3, .int (iI z25)), (0, .ref a0), (1, .int (iI x1)), (2, .int (iI x2))] [] S g 0 0 := by
    intro nP33
    induction nP33 with
    | zero => intro z25 lz25 uz25 v34 v35 mP33; exact False.elim (by omega)
    | succ nP33 ihP33 =>
      intro z25 lz25 uz25 v34 v35 mP33
      refine X_iloadn hK (i := 3) 0 kd24_4.2.1 rfl rfl ?_
      refine X_if_lt hK 39 (by omega) kd24_4.2.2.1 (by decide) (fun c36 => ?_) (fun c36 => ?_)
      · refine X_iconst hK kd24_5.2.2.2.2.2.2.2.1 ?_
        exact hret _ _ _ _ _ _ _ kd24_5.2.2.2.2.2.2.2.2 ⟨rfl, rfl, (-1), rfl, (by omega), (by omega), (by have h9 := v34; rw [show (z25 + 1).toNat = 0 by omega] at h9; exact h9)⟩ (Nat.le_refl _) (Nat.le_refl _)
      · refine X_aloadn hK (i := 0) 1 kd24_4.2.2.2.1 rfl rfl ?_
        refine X_getK hK fl_X4_18_5 hs_a0 eltl kd24_4.2.2.2.2.1 ?_
        refine X_iloadn hK (i := 3) 0 kd24_4.2.2.2.2.2.1 rfl rfl ?_
        refine X_iald hK hs_ltl (by decide) sl_11900 (by omega) (by omega) kd24_4.2.2.2.2.2.2.1 (fun z37 ez37 lz37 uz37 => ?_)
        have hw38 : xv g ltl z25 = z37 := (xv_e (j := z25) ez37 (by omega))
        refine X_iloadn hK (i := 1) 2 kd24_4.2.2.2.2.2.2.2.1 rfl rfl ?_
        refine X_icmp_gt hK 33 (by omega) (by omega) kd24_4.2.2.2.2.2.2.2.2.1 (by decide) (fun c39 => ?_) (fun c39 => ?_)
        · refine X_iinc hK (i := 3) (z := z25) (n := (-1)) 0 [(3, .int (iI (z25 + (-1)))), (0, .ref a0), (1, .int (iI x1)), (2, .int (iI x2))] kd24_5.2.2.2.2.2.1 rfl (by decide) rfl ?_
          refine X_goto hK 7 kd24_5.2.2.2.2.2.2.1 (by decide) ?_
          exact ihP33  (z25 + (-1)) (by omega) (by omega) (by rw [show (z25 + (-1)) + 1 = z25 by omega, ← xlst9.n (by omega) (fun q9 => by have h9 := hp0 z25 (by omega) (by omega); rw [hw38] at h9; omega)]; exact v34) (by omega) (by omega)
        · refine X_aloadn hK (i := 0) 1 kd24_4.2.2.2.2.2.2.2.2.2.1 rfl rfl ?_
          refine X_getK hK fl_X4_9_5 hs_a0 elpl kd24_4.2.2.2.2.2.2.2.2.2.2.1 ?_
          refine X_iloadn hK (i := 3) 0 kd24_4.2.2.2.2.2.2.2.2.2.2.2 rfl rfl ?_
          refine X_iald hK hs_lpl (by decide) sl_11700 (by omega) (by omega) kd24_5.1 (fun z40 ez40 lz40 uz40 => ?_)
          have hw41 : xv g lpl z25 = z40 := (xv_e (j := z25) ez40 (by omega))
          refine X_iloadn hK (i := 2) 3 kd24_5.2.1 rfl rfl ?_
          refine X_icmp_ne hK 33 (by omega) (by omega) kd24_5.2.2.1 (by decide) (fun c42 => ?_) (fun c42 => ?_)
          · refine X_iinc hK (i := 3) (z := z25) (n := (-1)) 0 [(3, .int (iI (z25 + (-1)))), (0, .ref a0), (1, .int (iI x1)), (2, .int (iI x2))] kd24_5.2.2.2.2.2.1 rfl (by decide) rfl ?_
            refine X_goto hK 7 kd24_5.2.2.2.2.2.2.1 (by decide) ?_
            exact ihP33  (z25 + (-1)) (by omega) (by omega) (by rw [show (z25 + (-1)) + 1 = z25 by omega, ← xlst9.n (by omega) (fun q9 => by have h9 := hp0 z25 (by omega) (by omega); have h8 := h9.2.2.2; unfold xLgr at h8; rw [hw41] at h9; have h7 := (xpl9 (d := L 2 z25) (d' := qd) h8.1 h8.2.1 hp2.1 hp2.2); omega)]; exact v34) (by omega) (by omega)
          · refine X_iloadn hK (i := 3) 0 kd24_5.2.2.2.1 rfl rfl ?_
            exact hret _ _ _ _ _ _ _ kd24_5.2.2.2.2.1 ⟨rfl, rfl, z25, rfl, (by omega), (by omega), (by rw [← v34]; exact (xlst9.y (by omega) (by have h9 := hp0 z25 (by omega) (by omega); have h8 := h9.2.2.2; unfold xLgr at h8; rw [hw41, hw38] at h9; have h7 := (xpl9 (d := L 2 z25) (d' := qd) h8.1 h8.2.1 hp2.1 hp2.2); omega)).symm)⟩ (Nat.le_refl _) (Nat.le_refl _)
  exact P33 (((nc - 1) + 10 : Int).toNat + 1) (nc - 1) (by omega) (by omega) (by rw [show (nc - 1) + 1 = nc by omega]) (by omega) (by omega)

set_option maxHeartbeats 4000000 in
set_option maxRecDepth 100000 in
theorem m_countedAsOf (l : Launch) (D : va_G) (kA : Nat → ClassId) (b0 : Nat) (t0 : Nat → Nat) (S : xT) (g : xG) (a0 : Nat) (x1 : Int) (x2 : Int) (lpl : Nat) (lcp : Nat) (ltl : Nat) (nc : Int) (L : Nat → Int → Int) (qp : Int) (qc : Int) (qd : Int) (hs_a0 : S a0 = some (5, 0)) (hx1 : (-2147483648) ≤ x1 ∧ x1 ≤ 2147483647) (hx2 : (-2147483648) ≤ x2 ∧ x2 ≤ 2147483647) (elpl : g a0 0 = .ref lpl) (hs_lpl : S lpl = some (11700, 60)) (elcp : g a0 1 = .ref lcp) (hs_lcp : S lcp = some (11800, 60)) (eltl : g a0 2 = .ref ltl) (hs_ltl : S ltl = some (11900, 60)) (hnc : 0 ≤ nc ∧ nc ≤ 60) (enc : g a0 3 = .int (iI nc)) (hp0 : xLgC nc (xv g lpl) (xv g lcp) (xv g ltl) L) (hp1 : x2 = (4 * qd + qp) * 10 + qc) (hp2 : (0 ≤ qp ∧ qp ≤ 3) ∧ (0 ≤ qc ∧ qc ≤ 9)) : xMt l yX4_countedAsOf cX4_countedAsOf 4 (some .int) 1 0 0 23 D kA b0 t0 [] [.ref a0, .int (iI x1), .int (iI x2)] S g (fun (r : Option Value) (S1 : xT) (g1 : xG) => S = S1 ∧ g = g1 ∧ ∃ z : Int, r = some (.int (iI z)) ∧ (-2147483648) ≤ z ∧ z ≤ 2147483647 ∧ (z = xct9 L nc.toNat x1 qp qc qd)) := by
  refine xEnterI (by decide) (by simp [lg_sl, Value.category]) [(0, .ref a0), (1, .int (iI x1)), (2, .int (iI x2))] rfl ?_
  intro K E hK hret _ _ _
  refine X_aloadn hK (i := 0) 0 kd24_2.2.2.2.2.2.1 rfl rfl ?_
  refine X_iloadn hK (i := 1) 1 kd24_2.2.2.2.2.2.2.1 rfl rfl ?_
  refine X_iloadn hK (i := 2) 2 kd24_2.2.2.2.2.2.2.2.1 rfl rfl ?_
  refine X_callV hK [.int (iI x1), .int (iI x2)] [] lk_X4_25 (m_lastAsOf _ _ _ _ _ S g a0 x1 x2 lpl lcp ltl nc L qp qc qd hs_a0 (by omega) (by omega) elpl hs_lpl elcp hs_lcp eltl hs_ltl (by omega) enc hp0 hp1 hp2) hs_a0 ⟨by decide, rfl⟩ kd24_2.2.2.2.2.2.2.2.2.1 rfl rfl (by simp [Value.category]) (by decide) (by decide) (by decide) (by decide) (fun r1 S3 g2 pr1 qr1 hg2 => ?_)
  obtain ⟨rfl, rfl, z4, rfl, lz4, uz4, k5⟩ := pr1
  refine X_st [.int (iI z4)] rfl ?_
  have r9z4 := xlst9.r (L := L) (t := x1) (p := qp) (c := qc) (d := qd) nc.toNat
  rw [← k5] at r9z4
  refine X_istoren hK (i := 3) [(3, .int (iI z4)), (0, .ref a0), (1, .int (iI x1)), (2, .int (iI x2))] kd24_2.2.2.2.2.2.2.2.2.2.1 rfl (by decide) rfl ?_
  refine X_iloadn hK (i := 3) 0 kd24_2.2.2.2.2.2.2.2.2.2.2.1 rfl rfl ?_
  refine X_iconst hK kd24_2.2.2.2.2.2.2.2.2.2.2.2 ?_
  refine X_icmp_ne hK 16 (by omega) (by omega) kd24_3.1 (by decide) (fun c6 => ?_) (fun c6 => ?_)
  · refine X_aloadn hK (i := 0) 1 kd24_3.2.2.2.1 rfl rfl ?_
    refine X_getK hK fl_X4_15_5 hs_a0 elcp kd24_3.2.2.2.2.1 ?_
    refine X_iloadn hK (i := 3) 0 kd24_3.2.2.2.2.2.1 rfl rfl ?_
    refine X_iald hK hs_lcp (by decide) sl_11800 (by omega) (by omega) kd24_3.2.2.2.2.2.2.1 (fun z7 ez7 lz7 uz7 => ?_)
    have hw8 : xv g lcp z4 = z7 := (xv_e (j := z4) ez7 (by omega))
    exact hret _ _ _ _ _ _ _ kd24_3.2.2.2.2.2.2.2.1 ⟨rfl, rfl, z7, rfl, (by omega), (by omega), (by unfold xct9; rw [← k5, if_neg (by omega), ← (hp0 z4 (by omega) (by omega)).2.1]; exact hw8.symm)⟩ (Nat.le_refl _) (Nat.le_refl _)
  · refine X_iconst hK kd24_3.2.1 ?_
    refine X_goto hK 22 kd24_3.2.2.1 (by decide) ?_
    exact hret _ _ _ _ _ _ _ kd24_3.2.2.2.2.2.2.2.1 ⟨rfl, rfl, 0, rfl, (by omega), (by omega), (by unfold xct9; rw [← k5, if_pos (by omega)])⟩ (Nat.le_refl _) (Nat.le_refl _)

set_option maxHeartbeats 4000000 in
set_option maxRecDepth 100000 in
theorem m_cameBack (l : Launch) (D : va_G) (kA : Nat → ClassId) (b0 : Nat) (t0 : Nat → Nat) (S : xT) (g : xG) (a0 : Nat) (x1 : Int) (bn : Nat) (bo : Nat) (nu : Int) (nb : Int) (U : Int → Nat) (B : Int → Nat) (Y : Nat → Int → Int) (YB : Nat → Int → Int) (qp : Int) (qc : Int) (qd : Int) (hs_a0 : S a0 = some (6, 0)) (hx1 : (-2147483648) ≤ x1 ∧ x1 ≤ 2147483647) (ebn : g a0 2 = .ref bn) (hs_bn : S bn = some (100, 0)) (ebo : g a0 1 = .ref bo) (hs_bo : S bo = some (0, 0)) (hnu : 0 ≤ nu ∧ nu ≤ 200) (enu : g bn 2 = .int (iI nu)) (hnb : 0 ≤ nb ∧ nb ≤ 40) (enb : g bo 2 = .int (iI nb)) (hp0 : xLs S g) (hp1 : xUW S g bn nu nb U B Y) (hp2 : xBW S g bo nb B YB) (hp3 : x1 = (4 * qd + qp) * 10 + qc) (hp4 : (0 ≤ qp ∧ qp ≤ 3) ∧ (0 ≤ qc ∧ qc ≤ 9)) : xMt l yX5_cameBack cX5_cameBack 5 (some .int) 3 0 0 64 D kA b0 t0 [] [.ref a0, .int (iI x1)] S g (fun (r : Option Value) (S1 : xT) (g1 : xG) => S = S1 ∧ g = g1 ∧ ∃ z : Int, r = some (.int (iI z)) ∧ (-2147483648) ≤ z ∧ z ≤ 2147483647 ∧ (z = xcb9 Y nu.toNat qp qc qd)) := by
  refine xEnterI (by decide) (by simp [lg_sl, Value.category]) [(0, .ref a0), (1, .int (iI x1))] rfl ?_
  intro K E hK hret _ _ _
  refine X_iconst hK kd32_9.2.2.1 ?_
  refine X_istoren hK (i := 2) [(2, .int (iI 0)), (0, .ref a0), (1, .int (iI x1))] kd32_9.2.2.2.1 rfl (by decide) rfl ?_
  refine X_iconst hK kd32_9.2.2.2.2.1 ?_
  refine X_istoren hK (i := 3) [(3, .int (iI 0)), (2, .int (iI 0)), (0, .ref a0), (1, .int (iI x1))] kd32_9.2.2.2.2.2.1 rfl (by decide) rfl ?_
  have P85 : ∀ (nP85 : Nat) (z68 : Int) (_ : 0 ≤ z68) (_ : z68 ≤ 200) (z69 : Int) (_ : (-2147483648) ≤ z69) (_ : z69 ≤ 2147483647) (_ : z69 = xwp (xzm (fun k9 => if Y 5 k9 = qd ∧ Y 1 k9 = qp ∧ Y 2 k9 = qc then Y 9 k9 else 0) z68.toNat)) (_ : z68 ≤ nu) (_ : 300 - z68 < (nP85 : Int)), X K E 4 [(3, .int (iI z68)), (2, .int (iI z69)), (0, .ref a0), (1, .int (iI x1))] [] S g 0 0 := by
    intro nP85
    induction nP85 with
    | zero => intro z68 lz68 uz68 z69 lz69 uz69 v86 v87 mP85; exact False.elim (by omega)
    | succ nP85 ihP85 =>
      intro z68 lz68 uz68 z69 lz69 uz69 v86 v87 mP85
      refine X_iloadn hK (i := 3) 0 kd32_9.2.2.2.2.2.2.1 rfl rfl ?_
      refine X_aloadn hK (i := 0) 2 kd32_9.2.2.2.2.2.2.2.1 rfl rfl ?_
      refine X_getK hK fl_X5_25_6 hs_a0 ebn kd32_9.2.2.2.2.2.2.2.2.1 ?_
      refine X_callV hK [] [.int (iI z68)] lk_X5_45 (c_size_100 _ _ _ _ _ S g bn nu hs_bn (by omega) enu hp0) hs_bn ⟨by decide, rfl⟩ kd32_9.2.2.2.2.2.2.2.2.2.1 rfl rfl (by simp [Value.category]) (by decide) (by decide) (by decide) (by decide) (fun r88 S90 g89 pr88 qr88 hg89 => ?_)
      obtain ⟨rfl, rfl, z91, rfl, lz91, uz91, k92⟩ := pr88
      refine X_st [.int (iI z91), .int (iI z68)] rfl ?_
      refine X_icmp_ge hK 55 (by omega) (by omega) kd32_9.2.2.2.2.2.2.2.2.2.2.1 (by decide) (fun c93 => ?_) (fun c93 => ?_)
      · refine X_iloadn hK (i := 2) 1 kd32_11.2.2.2.2.2.2.1 rfl rfl ?_
        exact hret _ _ _ _ _ _ _ kd32_11.2.2.2.2.2.2.2.1 ⟨rfl, rfl, z69, rfl, (by omega), (by omega), (by unfold xcb9; rw [show nu.toNat = (z68).toNat by omega]; exact v86)⟩ (Nat.le_refl _) (Nat.le_refl _)
      · refine X_aloadn hK (i := 0) 2 kd32_9.2.2.2.2.2.2.2.2.2.2.2 rfl rfl ?_
        refine X_getK hK fl_X5_25_6 hs_a0 ebn kd32_10.1 ?_
        refine X_iloadn hK (i := 3) 0 kd32_10.2.1 rfl rfl ?_
        refine X_callV hK [.int (iI z68)] [] lk_X5_119 (c_get_100 _ _ _ _ _ S g bn z68 nu hs_bn (by omega) (by omega) enu hp0 (by omega)) hs_bn ⟨by decide, rfl⟩ kd32_10.2.2.1 rfl rfl (by simp [Value.category]) (by decide) (by decide) (by decide) (by decide) (fun r94 S96 g95 pr94 qr94 hg95 => ?_)
        obtain ⟨rfl, rfl, b97, rfl, hs_b97, k98⟩ := pr94
        refine X_st [.ref b97] rfl ?_
        have he99 : b97 = U z68 := k98.trans (hp1.2.1 z68 (by omega) (by omega)).1
        have hbd100 := hp1.2.1 z68 (by omega) (by omega)
        obtain ⟨abd100, sbd100, ybd100, zbd100, fbd100, rbd100⟩ := hbd100
        unfold xUr at rbd100
        have kbd100 := hp2.2 (Y 0 z68) (by omega) (by omega)
        obtain ⟨kabd100, ksbd100, kfbd100, krbd100⟩ := kbd100
        unfold xBr at krbd100
        refine X_cast hK hs_b97 ⟨by decide, rfl⟩ m_38_23 kd32_10.2.2.2.1 ?_
        refine X_astore hK (i := 4) [(4, .ref b97), (3, .int (iI z68)), (2, .int (iI z69)), (0, .ref a0), (1, .int (iI x1))] kd32_10.2.2.2.2.1 (by decide) rfl ?_
        refine X_iloadn hK (i := 2) 2 kd32_10.2.2.2.2.2.1 rfl rfl ?_
        refine X_aload hK (i := 4) 0 kd32_10.2.2.2.2.2.2.1 rfl ?_
        refine X_getK hK fl_X5_131_2 hs_b97 (show g b97 6 = .int (iI (Y 6 z68)) from by have h9 := (fbd100 6 (by decide) (by decide)).1; rw [he99]; exact h9) kd32_10.2.2.2.2.2.2.2.1 ?_
        refine X_iloadn hK (i := 1) 4 kd32_10.2.2.2.2.2.2.2.2.1 rfl rfl ?_
        refine X_icmp_ne hK 46 (by omega) (by omega) kd32_10.2.2.2.2.2.2.2.2.2.1 (by decide) (fun c101 => ?_) (fun c101 => ?_)
        · refine X_iconst hK kd32_11.2.1 ?_
          refine X_iadd hK kd32_11.2.2.1 ?_
          refine X_istoren hK (i := 2) [(2, .int (iI (z69 + 0))), (4, .ref b97), (3, .int (iI z68)), (0, .ref a0), (1, .int (iI x1))] kd32_11.2.2.2.1 rfl (by decide) rfl ?_
          refine X_iinc hK (i := 3) (z := z68) (n := 1) 2 [(3, .int (iI (z68 + 1))), (2, .int (iI (z69 + 0))), (4, .ref b97), (0, .ref a0), (1, .int (iI x1))] kd32_11.2.2.2.2.1 rfl (by decide) rfl ?_
          refine X_goto hK 4 kd32_11.2.2.2.2.2.1 (by decide) ?_
          refine X_lv [(3, .int (iI (z68 + 1))), (2, .int (iI (z69 + 0))), (0, .ref a0), (1, .int (iI x1))] [0, 1, 3, 4] rfl ?_
          exact ihP85  (z68 + 1) (by omega) (by omega) (z69 + 0) (by omega) (by omega) (by rw [xzm.s1 (by omega), ← xwp.add, ← v86]; show (z69 + 0) = xwp (z69 + (if Y 5 z68 = qd ∧ Y 1 z68 = qp ∧ Y 2 z68 = qc then Y 9 z68 else 0)); rw [if_neg (by have h9 := rbd100.2.2.2.2.2; have h8 := xpl9 (d := Y 5 z68) (d' := qd) rbd100.1 rbd100.2.1 hp4.1 hp4.2; omega)]; exact (xwp.id (by omega)).symm) (by omega) (by omega)
        · refine X_aload hK (i := 4) 0 kd32_10.2.2.2.2.2.2.2.2.2.2.1 rfl ?_
          refine X_getK hK fl_X5_156_2 hs_b97 (show g b97 9 = .int (iI (Y 9 z68)) from by have h9 := (fbd100 9 (by decide) (by decide)).1; rw [he99]; exact h9) kd32_10.2.2.2.2.2.2.2.2.2.2.2 ?_
          refine X_goto hK 47 kd32_11.1 (by decide) ?_
          refine X_iadd hK kd32_11.2.2.1 ?_
          refine X_norm (fun z102 ez102 lz102 uz102 => ?_)
          refine X_istoren hK (i := 2) [(2, .int (iI z102)), (4, .ref b97), (3, .int (iI z68)), (0, .ref a0), (1, .int (iI x1))] kd32_11.2.2.2.1 rfl (by decide) rfl ?_
          refine X_iinc hK (i := 3) (z := z68) (n := 1) 2 [(3, .int (iI (z68 + 1))), (2, .int (iI z102)), (4, .ref b97), (0, .ref a0), (1, .int (iI x1))] kd32_11.2.2.2.2.1 rfl (by decide) rfl ?_
          refine X_goto hK 4 kd32_11.2.2.2.2.2.1 (by decide) ?_
          refine X_lv [(3, .int (iI (z68 + 1))), (2, .int (iI z102)), (0, .ref a0), (1, .int (iI x1))] [0, 1, 3, 4] rfl ?_
          exact ihP85  (z68 + 1) (by omega) (by omega) z102 (by omega) (by omega) (by rw [xzm.s1 (by omega), ← xwp.add, ← v86]; show z102 = xwp (z69 + (if Y 5 z68 = qd ∧ Y 1 z68 = qp ∧ Y 2 z68 = qc then Y 9 z68 else 0)); rw [if_pos (by have h9 := rbd100.2.2.2.2.2; have h8 := xpl9 (d := Y 5 z68) (d' := qd) rbd100.1 rbd100.2.1 hp4.1 hp4.2; omega)]; exact xwp.of ez102 (by omega)) (by omega) (by omega)
  exact P85 ((300 - 0 : Int).toNat + 1) 0 (by omega) (by omega) 0 (by omega) (by omega) (xwp.id (by decide)).symm (by omega) (by omega)

set_option maxHeartbeats 4000000 in
set_option maxRecDepth 100000 in
theorem m_lfirstAt (l : Launch) (D : va_G) (kA : Nat → ClassId) (b0 : Nat) (t0 : Nat → Nat) (S : xT) (g : xG) (a0 : Nat) (x1 : Int) (bn : Nat) (bo : Nat) (nu : Int) (nb : Int) (U : Int → Nat) (B : Int → Nat) (Y : Nat → Int → Int) (YB : Nat → Int → Int) (qp : Int) (qc : Int) (qd : Int) (hs_a0 : S a0 = some (6, 0)) (hx1 : (-2147483648) ≤ x1 ∧ x1 ≤ 2147483647) (ebn : g a0 2 = .ref bn) (hs_bn : S bn = some (100, 0)) (ebo : g a0 1 = .ref bo) (hs_bo : S bo = some (0, 0)) (hnu : 0 ≤ nu ∧ nu ≤ 200) (enu : g bn 2 = .int (iI nu)) (hnb : 0 ≤ nb ∧ nb ≤ 40) (enb : g bo 2 = .int (iI nb)) (hp0 : xLs S g) (hp1 : xUW S g bn nu nb U B Y) (hp2 : xBW S g bo nb B YB) (hp3 : x1 = (4 * qd + qp) * 10 + qc) (hp4 : (0 ≤ qp ∧ qp ≤ 3) ∧ (0 ≤ qc ∧ qc ≤ 9)) : xMt l yX5_firstAt cX5_firstAt 3 (some .int) 3 0 0 64 D kA b0 t0 [] [.ref a0, .int (iI x1)] S g (fun (r : Option Value) (S1 : xT) (g1 : xG) => S = S1 ∧ g = g1 ∧ ∃ z : Int, r = some (.int (iI z)) ∧ (-1) ≤ z ∧ z ≤ 199 ∧ ((z = -1 ∧ xfm9 Y qp qc qd nu = 0) ∨ ((0 ≤ z ∧ z < nu) ∧ (Y 5 z = qd ∧ Y 1 z = qp ∧ Y 2 z = qc) ∧ xfm9 Y qp qc qd z = 0))) := by
  refine xEnterI (by decide) (by simp [lg_sl, Value.category]) [(0, .ref a0), (1, .int (iI x1))] rfl ?_
  intro K E hK hret _ _ _
  refine X_iconst hK kd32_19.2.2.2.2.2.2.2.1 ?_
  refine X_istoren hK (i := 2) [(2, .int (iI 0)), (0, .ref a0), (1, .int (iI x1))] kd32_19.2.2.2.2.2.2.2.2.1 rfl (by decide) rfl ?_
  have P61 : ∀ (nP61 : Nat) (z46 : Int) (_ : 0 ≤ z46) (_ : z46 ≤ 200) (_ : xfm9 Y qp qc qd z46 = 0) (_ : z46 ≤ nu) (_ : 300 - z46 < (nP61 : Int)), X K E 2 [(2, .int (iI z46)), (0, .ref a0), (1, .int (iI x1))] [] S g 0 0 := by
    intro nP61
    induction nP61 with
    | zero => intro z46 lz46 uz46 v62 v63 mP61; exact False.elim (by omega)
    | succ nP61 ihP61 =>
      intro z46 lz46 uz46 v62 v63 mP61
      refine X_iloadn hK (i := 2) 0 kd32_19.2.2.2.2.2.2.2.2.2.1 rfl rfl ?_
      refine X_aloadn hK (i := 0) 1 kd32_19.2.2.2.2.2.2.2.2.2.2.1 rfl rfl ?_
      refine X_getK hK fl_X5_25_6 hs_a0 ebn kd32_19.2.2.2.2.2.2.2.2.2.2.2 ?_
      refine X_callV hK [] [.int (iI z46)] lk_X5_45 (c_size_100 _ _ _ _ _ S g bn nu hs_bn (by omega) enu hp0) hs_bn ⟨by decide, rfl⟩ kd32_20.1 rfl rfl (by simp [Value.category]) (by decide) (by decide) (by decide) (by decide) (fun r64 S66 g65 pr64 qr64 hg65 => ?_)
      obtain ⟨rfl, rfl, z67, rfl, lz67, uz67, k68⟩ := pr64
      refine X_st [.int (iI z67), .int (iI z46)] rfl ?_
      refine X_icmp_ge hK 39 (by omega) (by omega) kd32_20.2.1 (by decide) (fun c69 => ?_) (fun c69 => ?_)
      · refine X_iconst hK kd32_21.2.2.1 ?_
        exact hret _ _ _ _ _ _ _ kd32_21.2.2.2.1 ⟨rfl, rfl, (-1), rfl, (by omega), (by omega), (Or.inl ⟨rfl, (by have h9 := v62; rw [show z46 = nu by omega] at h9; exact h9)⟩)⟩ (Nat.le_refl _) (Nat.le_refl _)
      · refine X_aloadn hK (i := 0) 1 kd32_20.2.2.1 rfl rfl ?_
        refine X_getK hK fl_X5_25_6 hs_a0 ebn kd32_20.2.2.2.1 ?_
        refine X_iloadn hK (i := 2) 0 kd32_20.2.2.2.2.1 rfl rfl ?_
        refine X_callV hK [.int (iI z46)] [] lk_X5_119 (c_get_100 _ _ _ _ _ S g bn z46 nu hs_bn (by omega) (by omega) enu hp0 (by omega)) hs_bn ⟨by decide, rfl⟩ kd32_20.2.2.2.2.2.1 rfl rfl (by simp [Value.category]) (by decide) (by decide) (by decide) (by decide) (fun r70 S72 g71 pr70 qr70 hg71 => ?_)
        obtain ⟨rfl, rfl, b73, rfl, hs_b73, k74⟩ := pr70
        refine X_st [.ref b73] rfl ?_
        have he75 : b73 = U z46 := k74.trans (hp1.2.1 z46 (by omega) (by omega)).1
        have hbd76 := hp1.2.1 z46 (by omega) (by omega)
        obtain ⟨abd76, sbd76, ybd76, zbd76, fbd76, rbd76⟩ := hbd76
        unfold xUr at rbd76
        have kbd76 := hp2.2 (Y 0 z46) (by omega) (by omega)
        obtain ⟨kabd76, ksbd76, kfbd76, krbd76⟩ := kbd76
        unfold xBr at krbd76
        refine X_cast hK hs_b73 ⟨by decide, rfl⟩ m_38_23 kd32_20.2.2.2.2.2.2.1 ?_
        refine X_getK hK fl_X5_131_2 hs_b73 (show g b73 6 = .int (iI (Y 6 z46)) from by have h9 := (fbd76 6 (by decide) (by decide)).1; rw [he75]; exact h9) kd32_20.2.2.2.2.2.2.2.1 ?_
        refine X_iloadn hK (i := 1) 2 kd32_20.2.2.2.2.2.2.2.2.1 rfl rfl ?_
        refine X_icmp_ne hK 33 (by omega) (by omega) kd32_20.2.2.2.2.2.2.2.2.2.1 (by decide) (fun c77 => ?_) (fun c77 => ?_)
        · refine X_iinc hK (i := 2) (z := z46) (n := 1) 0 [(2, .int (iI (z46 + 1))), (0, .ref a0), (1, .int (iI x1))] kd32_21.1 rfl (by decide) rfl ?_
          refine X_goto hK 2 kd32_21.2.1 (by decide) ?_
          exact ihP61  (z46 + 1) (by omega) (by omega) (by unfold xfm9 at *; rw [xzm.s1 (by omega), v62]; show 0 + (if _ then _ else _) = (0 : Int); rw [if_neg (by have h9 := rbd76.2.2.2.2.2; have h8 := xpl9 (d := Y 5 z46) (d' := qd) rbd76.1 rbd76.2.1 hp4.1 hp4.2; omega)]; rfl) (by omega) (by omega)
        · refine X_iloadn hK (i := 2) 0 kd32_20.2.2.2.2.2.2.2.2.2.2.1 rfl rfl ?_
          exact hret _ _ _ _ _ _ _ kd32_20.2.2.2.2.2.2.2.2.2.2.2 ⟨rfl, rfl, z46, rfl, (by omega), (by omega), (Or.inr ⟨by omega, (by have h9 := rbd76.2.2.2.2.2; have h8 := xpl9 (d := Y 5 z46) (d' := qd) rbd76.1 rbd76.2.1 hp4.1 hp4.2; omega), v62⟩)⟩ (Nat.le_refl _) (Nat.le_refl _)
  exact P61 ((300 - 0 : Int).toNat + 1) 0 (by omega) (by omega) rfl (by omega) (by omega)

set_option maxHeartbeats 4000000 in
set_option maxRecDepth 100000 in
theorem m_falseAsOf (l : Launch) (D : va_G) (kA : Nat → ClassId) (b0 : Nat) (t0 : Nat → Nat) (S : xT) (g : xG) (a0 : Nat) (x1 : Int) (a2 : Nat) (lpl : Nat) (lcp : Nat) (ltl : Nat) (nc : Int) (bn : Nat) (bo : Nat) (nu : Int) (nb : Int) (U : Int → Nat) (B : Int → Nat) (Y : Nat → Int → Int) (YB : Nat → Int → Int) (L : Nat → Int → Int) (hs_a0 : S a0 = some (5, 0)) (hx1 : (-2147483648) ≤ x1 ∧ x1 ≤ 2147483647) (hs_a2 : S a2 = some (6, 0)) (elpl : g a0 0 = .ref lpl) (hs_lpl : S lpl = some (11700, 60)) (elcp : g a0 1 = .ref lcp) (hs_lcp : S lcp = some (11800, 60)) (eltl : g a0 2 = .ref ltl) (hs_ltl : S ltl = some (11900, 60)) (hnc : 0 ≤ nc ∧ nc ≤ 60) (enc : g a0 3 = .int (iI nc)) (ebn : g a2 2 = .ref bn) (hs_bn : S bn = some (100, 0)) (ebo : g a2 1 = .ref bo) (hs_bo : S bo = some (0, 0)) (hnu : 0 ≤ nu ∧ nu ≤ 200) (enu : g bn 2 = .int (iI nu)) (hnb : 0 ≤ nb ∧ nb ≤ 40) (enb : g bo 2 = .int (iI nb)) (hp0 : xLs S g) (hp1 : xUW S g bn nu nb U B Y) (hp2 : xBW S g bo nb B YB) (hp3 : xLgC nc (xv g lpl) (xv g lcp) (xv g ltl) L) : xMt l yX4_falseAsOf cX4_falseAsOf 5 (some .int) 4 0 0 88 D kA b0 t0 [] [.ref a0, .int (iI x1), .ref a2] S g (fun (r : Option Value) (S1 : xT) (g1 : xG) => S = S1 ∧ g = g1 ∧ ∃ z : Int, r = some (.int (iI z)) ∧ 0 ≤ z ∧ z ≤ 60 ∧ (z = xzm (xfl9 L Y nc.toNat nu.toNat x1) nc.toNat)) := by
  refine xEnterI (by decide) (by simp [lg_sl, Value.category]) [(0, .ref a0), (1, .int (iI x1)), (2, .ref a2)] rfl ?_
  intro K E hK hret _ _ _
  refine X_iconst hK kd32_2.2.2.2.2.2.1 ?_
  refine X_istoren hK (i := 3) [(3, .int (iI 0)), (0, .ref a0), (1, .int (iI x1)), (2, .ref a2)] kd32_2.2.2.2.2.2.2.1 rfl (by decide) rfl ?_
  refine X_iconst hK kd32_2.2.2.2.2.2.2.2.1 ?_
  refine X_istore hK (i := 4) [(4, .int (iI 0)), (3, .int (iI 0)), (0, .ref a0), (1, .int (iI x1)), (2, .ref a2)] kd32_2.2.2.2.2.2.2.2.2.1 (by decide) rfl ?_
  have P81 : ∀ (nP81 : Nat) (z61 : Int) (_ : 0 ≤ z61) (_ : z61 ≤ 60) (z62 : Int) (_ : 0 ≤ z62) (_ : z62 ≤ 60) (_ : z62 = xzm (xfl9 L Y nc.toNat nu.toNat x1) z61.toNat) (_ : z62 ≤ z61) (_ : z61 ≤ nc) (_ : 100 - z61 < (nP81 : Int)), X K E 5 [(4, .int (iI z61)), (3, .int (iI z62)), (0, .ref a0), (1, .int (iI x1)), (2, .ref a2)] [] S g 0 0 := by
    intro nP81
    induction nP81 with
    | zero => intro z61 lz61 uz61 z62 lz62 uz62 v82 v83 v84 mP81; exact False.elim (by omega)
    | succ nP81 ihP81 =>
      intro z61 lz61 uz61 z62 lz62 uz62 v82 v83 v84 mP81
      refine X_iload hK (i := 4) 0 kd32_2.2.2.2.2.2.2.2.2.2.1 rfl ?_
      refine X_aloadn hK (i := 0) 2 kd32_2.2.2.2.2.2.2.2.2.2.2.1 rfl rfl ?_
      refine X_getK hK fl_X4_21_5 hs_a0 enc kd32_2.2.2.2.2.2.2.2.2.2.2.2 ?_
      refine X_icmp_ge hK 61 (by omega) (by omega) kd32_3.1 (by decide) (fun c85 => ?_) (fun c85 => ?_)
      · refine X_iloadn hK (i := 3) 1 kd32_5.1 rfl rfl ?_
        exact hret _ _ _ _ _ _ _ kd32_5.2.1 ⟨rfl, rfl, z62, rfl, (by omega), (by omega), (by have h9 := v82; rw [show (z61).toNat = nc.toNat by omega] at h9; exact h9)⟩ (Nat.le_refl _) (Nat.le_refl _)
      · refine X_aloadn hK (i := 0) 2 kd32_3.2.1 rfl rfl ?_
        refine X_iloadn hK (i := 1) 3 kd32_3.2.2.1 rfl rfl ?_
        refine X_aloadn hK (i := 0) 2 kd32_3.2.2.2.1 rfl rfl ?_
        refine X_getK hK fl_X4_9_5 hs_a0 elpl kd32_3.2.2.2.2.1 ?_
        refine X_iload hK (i := 4) 0 kd32_3.2.2.2.2.2.1 rfl ?_
        refine X_iald hK hs_lpl (by decide) sl_11700 (by omega) (by omega) kd32_3.2.2.2.2.2.2.1 (fun z86 ez86 lz86 uz86 => ?_)
        have hw87 : xv g lpl z61 = z86 := (xv_e (j := z61) ez86 (by omega))
        refine X_callV hK [.int (iI x1), .int (iI z86)] [] lk_X4_25 (m_lastAsOf _ _ _ _ _ S g a0 x1 z86 lpl lcp ltl nc L (L 0 z61) (L 1 z61) (L 2 z61) hs_a0 (by omega) (by omega) elpl hs_lpl elcp hs_lcp eltl hs_ltl (by omega) enc hp3 (hw87.symm.trans (hp3 z61 (by omega) (by omega)).1) ⟨(hp3 z61 (by omega) (by omega)).2.2.2.1, (hp3 z61 (by omega) (by omega)).2.2.2.2.1⟩) hs_a0 ⟨by decide, rfl⟩ kd32_3.2.2.2.2.2.2.2.1 rfl rfl (by simp [Value.category]) (by decide) (by decide) (by decide) (by decide) (fun r88 S90 g89 pr88 qr88 hg89 => ?_)
        obtain ⟨rfl, rfl, z91, rfl, lz91, uz91, k92⟩ := pr88
        refine X_st [.int (iI z91)] rfl ?_
        refine X_iload hK (i := 4) 0 kd32_3.2.2.2.2.2.2.2.2.1 rfl ?_
        refine X_icmp_ne hK 55 (by omega) (by omega) kd32_3.2.2.2.2.2.2.2.2.2.1 (by decide) (fun c93 => ?_) (fun c93 => ?_)
        · refine X_iinc hK (i := 4) (z := z61) (n := 1) 0 [(4, .int (iI (z61 + 1))), (3, .int (iI z62)), (0, .ref a0), (1, .int (iI x1)), (2, .ref a2)] kd32_4.2.2.2.2.2.2.2.2.2.2.1 rfl (by decide) rfl ?_
          refine X_goto hK 5 kd32_4.2.2.2.2.2.2.2.2.2.2.2 (by decide) ?_
          exact ihP81  (z61 + 1) (by omega) (by omega) z62 (by omega) (by omega) (by rw [xzm.s1 (by omega), ← v82]; show z62 = z62 + (if _ ∧ _ then _ else _); rw [if_neg (by rw [← k92]; omega)]; omega) (by omega) (by omega) (by omega)
        · refine X_aloadn hK (i := 0) 2 kd32_3.2.2.2.2.2.2.2.2.2.2.1 rfl rfl ?_
          refine X_getK hK fl_X4_15_5 hs_a0 elcp kd32_3.2.2.2.2.2.2.2.2.2.2.2 ?_
          refine X_iload hK (i := 4) 0 kd32_4.1 rfl ?_
          refine X_iald hK hs_lcp (by decide) sl_11800 (by omega) (by omega) kd32_4.2.1 (fun z94 ez94 lz94 uz94 => ?_)
          have hw95 : xv g lcp z61 = z94 := (xv_e (j := z61) ez94 (by omega))
          refine X_aloadn hK (i := 2) 4 kd32_4.2.2.1 rfl rfl ?_
          refine X_aloadn hK (i := 0) 2 kd32_4.2.2.2.1 rfl rfl ?_
          refine X_getK hK fl_X4_9_5 hs_a0 elpl kd32_4.2.2.2.2.1 ?_
          refine X_iload hK (i := 4) 0 kd32_4.2.2.2.2.2.1 rfl ?_
          refine X_ialdK hK hs_lpl (by decide) (by omega) (by omega) ez86 kd32_4.2.2.2.2.2.2.1 ?_
          have hw96 : xv g lpl z61 = z86 := (xv_e (j := z61) ez86 (by omega))
          refine X_callV hK [.int (iI z86)] [.int (iI z94)] lk_X4_29 (m_cameBack _ _ _ _ _ S g a2 z86 bn bo nu nb U B Y YB (L 0 z61) (L 1 z61) (L 2 z61) hs_a2 (by omega) ebn hs_bn ebo hs_bo (by omega) enu (by omega) enb hp0 hp1 hp2 (hw96.symm.trans (hp3 z61 (by omega) (by omega)).1) ⟨(hp3 z61 (by omega) (by omega)).2.2.2.1, (hp3 z61 (by omega) (by omega)).2.2.2.2.1⟩) hs_a2 ⟨by decide, rfl⟩ kd32_4.2.2.2.2.2.2.2.1 rfl rfl (by simp [Value.category]) (by decide) (by decide) (by decide) (by decide) (fun r97 S99 g98 pr97 qr97 hg98 => ?_)
          obtain ⟨rfl, rfl, z100, rfl, lz100, uz100, k101⟩ := pr97
          refine X_st [.int (iI z100), .int (iI z94)] rfl ?_
          refine X_icmp_le hK 55 (by omega) (by omega) kd32_4.2.2.2.2.2.2.2.2.1 (by decide) (fun c102 => ?_) (fun c102 => ?_)
          · refine X_iinc hK (i := 4) (z := z61) (n := 1) 0 [(4, .int (iI (z61 + 1))), (3, .int (iI z62)), (0, .ref a0), (1, .int (iI x1)), (2, .ref a2)] kd32_4.2.2.2.2.2.2.2.2.2.2.1 rfl (by decide) rfl ?_
            refine X_goto hK 5 kd32_4.2.2.2.2.2.2.2.2.2.2.2 (by decide) ?_
            exact ihP81  (z61 + 1) (by omega) (by omega) z62 (by omega) (by omega) (by rw [xzm.s1 (by omega), ← v82]; show z62 = z62 + (if _ ∧ _ then _ else _); rw [if_neg (by rw [← k92, ← k101, ← (hp3 z61 (by omega) (by omega)).2.1, hw95]; omega)]; omega) (by omega) (by omega) (by omega)
          · refine X_iinc hK (i := 3) (z := z62) (n := 1) 1 [(3, .int (iI (z62 + 1))), (4, .int (iI z61)), (0, .ref a0), (1, .int (iI x1)), (2, .ref a2)] kd32_4.2.2.2.2.2.2.2.2.2.1 rfl (by decide) rfl ?_
            refine X_iinc hK (i := 4) (z := z61) (n := 1) 1 [(4, .int (iI (z61 + 1))), (3, .int (iI (z62 + 1))), (0, .ref a0), (1, .int (iI x1)), (2, .ref a2)] kd32_4.2.2.2.2.2.2.2.2.2.2.1 rfl (by decide) rfl ?_
            refine X_goto hK 5 kd32_4.2.2.2.2.2.2.2.2.2.2.2 (by decide) ?_
            exact ihP81  (z61 + 1) (by omega) (by omega) (z62 + 1) (by omega) (by omega) (by rw [xzm.s1 (by omega), ← v82]; show (z62 + 1) = z62 + (if _ ∧ _ then _ else _); rw [if_pos (by rw [← k92, ← k101, ← (hp3 z61 (by omega) (by omega)).2.1, hw95]; omega)]) (by omega) (by omega) (by omega)
  exact P81 ((100 - 0 : Int).toNat + 1) 0 (by omega) (by omega) 0 (by omega) (by omega) rfl (by omega) (by omega) (by omega)

set_option maxHeartbeats 4000000 in
set_option maxRecDepth 100000 in
theorem m_shortAsOf (l : Launch) (D : va_G) (kA : Nat → ClassId) (b0 : Nat) (t0 : Nat → Nat) (S : xT) (g : xG) (a0 : Nat) (x1 : Int) (x2 : Int) (a3 : Nat) (lpl : Nat) (lcp : Nat) (ltl : Nat) (nc : Int) (bn : Nat) (bo : Nat) (nu : Int) (nb : Int) (U : Int → Nat) (B : Int → Nat) (Y : Nat → Int → Int) (YB : Nat → Int → Int) (L : Nat → Int → Int) (hs_a0 : S a0 = some (5, 0)) (hx1 : (-2147483648) ≤ x1 ∧ x1 ≤ 2147483647) (hx2 : 0 ≤ x2 ∧ x2 ≤ 400) (hs_a3 : S a3 = some (6, 0)) (elpl : g a0 0 = .ref lpl) (hs_lpl : S lpl = some (11700, 60)) (elcp : g a0 1 = .ref lcp) (hs_lcp : S lcp = some (11800, 60)) (eltl : g a0 2 = .ref ltl) (hs_ltl : S ltl = some (11900, 60)) (hnc : 0 ≤ nc ∧ nc ≤ 60) (enc : g a0 3 = .int (iI nc)) (ebn : g a3 2 = .ref bn) (hs_bn : S bn = some (100, 0)) (ebo : g a3 1 = .ref bo) (hs_bo : S bo = some (0, 0)) (hnu : 0 ≤ nu ∧ nu ≤ 200) (enu : g bn 2 = .int (iI nu)) (hnb : 0 ≤ nb ∧ nb ≤ 40) (enb : g bo 2 = .int (iI nb)) (hp0 : xLs S g) (hp1 : xUW S g bn nu nb U B Y) (hp2 : xBW S g bo nb B YB) (hp3 : xLgC nc (xv g lpl) (xv g lcp) (xv g ltl) L) : xMt l yX4_shortAsOf cX4_shortAsOf 7 (some .int) 4 0 0 88 D kA b0 t0 [] [.ref a0, .int (iI x1), .int (iI x2), .ref a3] S g (fun (r : Option Value) (S1 : xT) (g1 : xG) => S = S1 ∧ g = g1 ∧ ∃ z : Int, r = some (.int (iI z)) ∧ (-2147483648) ≤ z ∧ z ≤ 2147483647 ∧ (z = xwp (xzm (xsf9 L Y nc.toNat nu.toNat x2 x1) nu.toNat))) := by
  refine xEnterI (by decide) (by simp [lg_sl, Value.category]) [(0, .ref a0), (1, .int (iI x1)), (2, .int (iI x2)), (3, .ref a3)] rfl ?_
  intro K E hK hret _ _ _
  refine X_iconst hK kd32_5.2.2.1 ?_
  refine X_istore hK (i := 4) [(4, .int (iI 0)), (0, .ref a0), (1, .int (iI x1)), (2, .int (iI x2)), (3, .ref a3)] kd32_5.2.2.2.1 (by decide) rfl ?_
  refine X_iconst hK kd32_5.2.2.2.2.1 ?_
  refine X_istore hK (i := 5) [(5, .int (iI 0)), (4, .int (iI 0)), (0, .ref a0), (1, .int (iI x1)), (2, .int (iI x2)), (3, .ref a3)] kd32_5.2.2.2.2.2.1 (by decide) rfl ?_
  have P216 : ∀ (nP216 : Nat) (z180 : Int) (_ : 0 ≤ z180) (_ : z180 ≤ 200) (z181 : Int) (_ : (-2147483648) ≤ z181) (_ : z181 ≤ 2147483647) (_ : z181 = xwp (xzm (xsf9 L Y nc.toNat nu.toNat x2 x1) z180.toNat)) (_ : z180 ≤ nu) (_ : 300 - z180 < (nP216 : Int)), X K E 6 [(5, .int (iI z180)), (4, .int (iI z181)), (0, .ref a0), (1, .int (iI x1)), (2, .int (iI x2)), (3, .ref a3)] [] S g 0 0 := by
    intro nP216
    induction nP216 with
    | zero => intro z180 lz180 uz180 z181 lz181 uz181 v217 v218 mP216; exact False.elim (by omega)
    | succ nP216 ihP216 =>
      intro z180 lz180 uz180 z181 lz181 uz181 v217 v218 mP216
      refine X_iload hK (i := 5) 0 kd32_5.2.2.2.2.2.2.1 rfl ?_
      refine X_aloadn hK (i := 3) 5 kd32_5.2.2.2.2.2.2.2.1 rfl rfl ?_
      refine X_getK hK fl_X4_35_6 hs_a3 ebn kd32_5.2.2.2.2.2.2.2.2.1 ?_
      refine X_callV hK [] [.int (iI z180)] lk_X4_39 (c_size_100 _ _ _ _ _ S g bn nu hs_bn (by omega) enu hp0) hs_bn ⟨by decide, rfl⟩ kd32_5.2.2.2.2.2.2.2.2.2.1 rfl rfl (by simp [Value.category]) (by decide) (by decide) (by decide) (by decide) (fun r219 S221 g220 pr219 qr219 hg220 => ?_)
      obtain ⟨rfl, rfl, z222, rfl, lz222, uz222, k223⟩ := pr219
      refine X_st [.int (iI z222), .int (iI z180)] rfl ?_
      refine X_icmp_ge hK 99 (by omega) (by omega) kd32_5.2.2.2.2.2.2.2.2.2.2.1 (by decide) (fun c224 => ?_) (fun c224 => ?_)
      · refine X_iload hK (i := 4) 1 kd32_9.1 rfl ?_
        exact hret _ _ _ _ _ _ _ kd32_9.2.1 ⟨rfl, rfl, z181, rfl, (by omega), (by omega), (by have h9 := v217; rw [show (z180).toNat = nu.toNat by omega] at h9; exact h9)⟩ (Nat.le_refl _) (Nat.le_refl _)
      · refine X_aloadn hK (i := 3) 5 kd32_5.2.2.2.2.2.2.2.2.2.2.2 rfl rfl ?_
        refine X_getK hK fl_X4_35_6 hs_a3 ebn kd32_6.1 ?_
        refine X_iload hK (i := 5) 0 kd32_6.2.1 rfl ?_
        refine X_callV hK [.int (iI z180)] [] lk_X4_44 (c_get_100 _ _ _ _ _ S g bn z180 nu hs_bn (by omega) (by omega) enu hp0 (by omega)) hs_bn ⟨by decide, rfl⟩ kd32_6.2.2.1 rfl rfl (by simp [Value.category]) (by decide) (by decide) (by decide) (by decide) (fun r225 S227 g226 pr225 qr225 hg226 => ?_)
        obtain ⟨rfl, rfl, b228, rfl, hs_b228, k229⟩ := pr225
        refine X_st [.ref b228] rfl ?_
        have he230 : b228 = U z180 := k229.trans (hp1.2.1 z180 (by omega) (by omega)).1
        have hbd231 := hp1.2.1 z180 (by omega) (by omega)
        obtain ⟨abd231, sbd231, ybd231, zbd231, fbd231, rbd231⟩ := hbd231
        unfold xUr at rbd231
        have kbd231 := hp2.2 (Y 0 z180) (by omega) (by omega)
        obtain ⟨kabd231, ksbd231, kfbd231, krbd231⟩ := kbd231
        unfold xBr at krbd231
        refine X_cast hK hs_b228 ⟨by decide, rfl⟩ m_45_3 kd32_6.2.2.2.1 ?_
        refine X_astore hK (i := 6) [(6, .ref b228), (5, .int (iI z180)), (4, .int (iI z181)), (0, .ref a0), (1, .int (iI x1)), (2, .int (iI x2)), (3, .ref a3)] kd32_6.2.2.2.2.1 (by decide) rfl ?_
        refine X_aload hK (i := 6) 0 kd32_6.2.2.2.2.2.1 rfl ?_
        refine X_getK hK fl_X4_50_2 hs_b228 (show g b228 5 = .int (iI (Y 5 z180)) from by have h9 := (fbd231 5 (by decide) (by decide)).1; rw [he230]; exact h9) kd32_6.2.2.2.2.2.2.1 ?_
        refine X_iloadn hK (i := 2) 5 kd32_6.2.2.2.2.2.2.2.1 rfl rfl ?_
        refine X_icmp_ge hK 93 (by omega) (by omega) kd32_6.2.2.2.2.2.2.2.2.1 (by decide) (fun c232 => ?_) (fun c232 => ?_)
        · refine X_iinc hK (i := 5) (z := z180) (n := 1) 1 [(5, .int (iI (z180 + 1))), (6, .ref b228), (4, .int (iI z181)), (0, .ref a0), (1, .int (iI x1)), (2, .int (iI x2)), (3, .ref a3)] kd32_8.2.2.2.2.2.2.2.2.2.2.1 rfl (by decide) rfl ?_
          refine X_goto hK 6 kd32_8.2.2.2.2.2.2.2.2.2.2.2 (by decide) ?_
          refine X_lv [(5, .int (iI (z180 + 1))), (4, .int (iI z181)), (0, .ref a0), (1, .int (iI x1)), (2, .int (iI x2)), (3, .ref a3)] [0, 2, 3, 4, 5, 6] rfl ?_
          exact ihP216  (z180 + 1) (by omega) (by omega) z181 (by omega) (by omega) (by rw [xzm.s1 (by omega), ← xwp.add, ← v217]; show z181 = xwp (z181 + (if Y 5 z180 < x2 ∧ Y 5 z180 ≤ x1 ∧ xfm9 Y (Y 1 z180) (Y 2 z180) (Y 5 z180) z180 = 0 then _ else _)); rw [if_neg (by omega), Int.add_zero, xwp.id (by omega)]) (by omega) (by omega)
        · refine X_aload hK (i := 6) 0 kd32_6.2.2.2.2.2.2.2.2.2.1 rfl ?_
          refine X_getK hK fl_X4_50_2 hs_b228 (show g b228 5 = .int (iI (Y 5 z180)) from by have h9 := (fbd231 5 (by decide) (by decide)).1; rw [he230]; exact h9) kd32_6.2.2.2.2.2.2.2.2.2.2.1 ?_
          refine X_iloadn hK (i := 1) 4 kd32_6.2.2.2.2.2.2.2.2.2.2.2 rfl rfl ?_
          refine X_icmp_gt hK 93 (by omega) (by omega) kd32_7.1 (by decide) (fun c233 => ?_) (fun c233 => ?_)
          · refine X_iinc hK (i := 5) (z := z180) (n := 1) 1 [(5, .int (iI (z180 + 1))), (6, .ref b228), (4, .int (iI z181)), (0, .ref a0), (1, .int (iI x1)), (2, .int (iI x2)), (3, .ref a3)] kd32_8.2.2.2.2.2.2.2.2.2.2.1 rfl (by decide) rfl ?_
            refine X_goto hK 6 kd32_8.2.2.2.2.2.2.2.2.2.2.2 (by decide) ?_
            refine X_lv [(5, .int (iI (z180 + 1))), (4, .int (iI z181)), (0, .ref a0), (1, .int (iI x1)), (2, .int (iI x2)), (3, .ref a3)] [0, 2, 3, 4, 5, 6] rfl ?_
            exact ihP216  (z180 + 1) (by omega) (by omega) z181 (by omega) (by omega) (by rw [xzm.s1 (by omega), ← xwp.add, ← v217]; show z181 = xwp (z181 + (if Y 5 z180 < x2 ∧ Y 5 z180 ≤ x1 ∧ xfm9 Y (Y 1 z180) (Y 2 z180) (Y 5 z180) z180 = 0 then _ else _)); rw [if_neg (by omega), Int.add_zero, xwp.id (by omega)]) (by omega) (by omega)
          · refine X_aloadn hK (i := 3) 6 kd32_7.2.1 rfl rfl ?_
            refine X_aload hK (i := 6) 0 kd32_7.2.2.1 rfl ?_
            refine X_getK hK fl_X4_53_2 hs_b228 (show g b228 6 = .int (iI (Y 6 z180)) from by have h9 := (fbd231 6 (by decide) (by decide)).1; rw [he230]; exact h9) kd32_7.2.2.2.1 ?_
            refine X_callV hK [.int (iI (Y 6 z180))] [] lk_X4_55 (m_lfirstAt _ _ _ _ _ S g a3 (Y 6 z180) bn bo nu nb U B Y YB (Y 1 z180) (Y 2 z180) (Y 5 z180) hs_a3 (by omega) ebn hs_bn ebo hs_bo (by omega) enu (by omega) enb hp0 hp1 hp2 rbd231.2.2.2.2.2 ⟨rbd231.1, rbd231.2.1⟩) hs_a3 ⟨by decide, rfl⟩ kd32_7.2.2.2.2.1 rfl rfl (by simp [Value.category]) (by decide) (by decide) (by decide) (by decide) (fun r234 S236 g235 pr234 qr234 hg235 => ?_)
            obtain ⟨rfl, rfl, z237, rfl, lz237, uz237, k238⟩ := pr234
            refine X_st [.int (iI z237)] rfl ?_
            refine X_iload hK (i := 5) 1 kd32_7.2.2.2.2.2.1 rfl ?_
            refine X_icmp_ne hK 93 (by omega) (by omega) kd32_7.2.2.2.2.2.2.1 (by decide) (fun c239 => ?_) (fun c239 => ?_)
            · refine X_iinc hK (i := 5) (z := z180) (n := 1) 1 [(5, .int (iI (z180 + 1))), (6, .ref b228), (4, .int (iI z181)), (0, .ref a0), (1, .int (iI x1)), (2, .int (iI x2)), (3, .ref a3)] kd32_8.2.2.2.2.2.2.2.2.2.2.1 rfl (by decide) rfl ?_
              refine X_goto hK 6 kd32_8.2.2.2.2.2.2.2.2.2.2.2 (by decide) ?_
              refine X_lv [(5, .int (iI (z180 + 1))), (4, .int (iI z181)), (0, .ref a0), (1, .int (iI x1)), (2, .int (iI x2)), (3, .ref a3)] [0, 2, 3, 4, 5, 6] rfl ?_
              exact ihP216  (z180 + 1) (by omega) (by omega) z181 (by omega) (by omega) (by rw [xzm.s1 (by omega), ← xwp.add, ← v217]; show z181 = xwp (z181 + (if Y 5 z180 < x2 ∧ Y 5 z180 ≤ x1 ∧ xfm9 Y (Y 1 z180) (Y 2 z180) (Y 5 z180) z180 = 0 then _ else _)); rw [if_neg (fun q9 => by have h7 := k238; rcases h7 with h7 | h7; (have h6 := xfm9.pos (Y := Y) (p := Y 1 z180) (c := Y 2 z180) (d := Y 5 z180) (i := nu) (j := z180) (by omega) ⟨rfl, rfl, rfl⟩; omega); (have h5 := h7.1; by_cases h4 : z237 < z180; (have h6 := xfm9.pos (Y := Y) (p := Y 1 z180) (c := Y 2 z180) (d := Y 5 z180) (i := z180) (j := z237) (by omega) h7.2.1; have h3 := q9.2.2; omega); (have h6 := xfm9.pos (Y := Y) (p := Y 1 z180) (c := Y 2 z180) (d := Y 5 z180) (i := z237) (j := z180) (by omega) ⟨rfl, rfl, rfl⟩; have h3 := h7.2.2; omega))), Int.add_zero, xwp.id (by omega)]) (by omega) (by omega)
            · refine X_iload hK (i := 4) 2 kd32_7.2.2.2.2.2.2.2.1 rfl ?_
              refine X_iconst hK kd32_7.2.2.2.2.2.2.2.2.1 ?_
              refine X_aloadn hK (i := 3) 6 kd32_7.2.2.2.2.2.2.2.2.2.1 rfl rfl ?_
              refine X_aload hK (i := 6) 0 kd32_7.2.2.2.2.2.2.2.2.2.2.1 rfl ?_
              refine X_getK hK fl_X4_53_2 hs_b228 (show g b228 6 = .int (iI (Y 6 z180)) from by have h9 := (fbd231 6 (by decide) (by decide)).1; rw [he230]; exact h9) kd32_7.2.2.2.2.2.2.2.2.2.2.2 ?_
              refine X_callV hK [.int (iI (Y 6 z180))] [.int (iI 0), .int (iI z181)] lk_X4_29 (m_cameBack _ _ _ _ _ S g a3 (Y 6 z180) bn bo nu nb U B Y YB (Y 1 z180) (Y 2 z180) (Y 5 z180) hs_a3 (by omega) ebn hs_bn ebo hs_bo (by omega) enu (by omega) enb hp0 hp1 hp2 rbd231.2.2.2.2.2 ⟨rbd231.1, rbd231.2.1⟩) hs_a3 ⟨by decide, rfl⟩ kd32_8.1 rfl rfl (by simp [Value.category]) (by decide) (by decide) (by decide) (by decide) (fun r240 S242 g241 pr240 qr240 hg241 => ?_)
              obtain ⟨rfl, rfl, z243, rfl, lz243, uz243, k244⟩ := pr240
              refine X_st [.int (iI z243), .int (iI 0), .int (iI z181)] rfl ?_
              refine X_aloadn hK (i := 0) 3 kd32_8.2.1 rfl rfl ?_
              refine X_iloadn hK (i := 1) 4 kd32_8.2.2.1 rfl rfl ?_
              refine X_aload hK (i := 6) 0 kd32_8.2.2.2.1 rfl ?_
              refine X_getK hK fl_X4_53_2 hs_b228 (show g b228 6 = .int (iI (Y 6 z180)) from by have h9 := (fbd231 6 (by decide) (by decide)).1; rw [he230]; exact h9) kd32_8.2.2.2.2.1 ?_
              refine X_callV hK [.int (iI x1), .int (iI (Y 6 z180))] [.int (iI z243), .int (iI 0), .int (iI z181)] lk_X4_58 (m_countedAsOf _ _ _ _ _ S g a0 x1 (Y 6 z180) lpl lcp ltl nc L (Y 1 z180) (Y 2 z180) (Y 5 z180) hs_a0 (by omega) (by omega) elpl hs_lpl elcp hs_lcp eltl hs_ltl (by omega) enc hp3 rbd231.2.2.2.2.2 ⟨rbd231.1, rbd231.2.1⟩) hs_a0 ⟨by decide, rfl⟩ kd32_8.2.2.2.2.2.1 rfl rfl (by simp [Value.category]) (by decide) (by decide) (by decide) (by decide) (fun r245 S247 g246 pr245 qr245 hg246 => ?_)
              obtain ⟨rfl, rfl, z248, rfl, lz248, uz248, k249⟩ := pr245
              refine X_st [.int (iI z248), .int (iI z243), .int (iI 0), .int (iI z181)] rfl ?_
              refine X_isub hK kd32_8.2.2.2.2.2.2.1 ?_
              refine X_norm (fun z250 ez250 lz250 uz250 => ?_)
              refine X_mmax hK mm_X4_61 ⟨by decide, by simp [Value.category]⟩ (by decide) (by omega) (by omega) kd32_8.2.2.2.2.2.2.2.1 (fun z251 ez251 fz251 => ?_)
              have bz251 : 0 ≤ z251 ∧ z251 ≤ 2147483647 := by omega
              refine X_iadd hK kd32_8.2.2.2.2.2.2.2.2.1 ?_
              refine X_norm (fun z252 ez252 lz252 uz252 => ?_)
              refine X_istore hK (i := 4) [(4, .int (iI z252)), (6, .ref b228), (5, .int (iI z180)), (0, .ref a0), (1, .int (iI x1)), (2, .int (iI x2)), (3, .ref a3)] kd32_8.2.2.2.2.2.2.2.2.2.1 (by decide) rfl ?_
              refine X_iinc hK (i := 5) (z := z180) (n := 1) 2 [(5, .int (iI (z180 + 1))), (4, .int (iI z252)), (6, .ref b228), (0, .ref a0), (1, .int (iI x1)), (2, .int (iI x2)), (3, .ref a3)] kd32_8.2.2.2.2.2.2.2.2.2.2.1 rfl (by decide) rfl ?_
              refine X_goto hK 6 kd32_8.2.2.2.2.2.2.2.2.2.2.2 (by decide) ?_
              refine X_lv [(5, .int (iI (z180 + 1))), (4, .int (iI z252)), (0, .ref a0), (1, .int (iI x1)), (2, .int (iI x2)), (3, .ref a3)] [0, 1, 3, 4, 5, 6] rfl ?_
              exact ihP216  (z180 + 1) (by omega) (by omega) z252 (by omega) (by omega) (by rw [xzm.s1 (by omega), ← xwp.add, ← v217]; show z252 = xwp (z181 + (if Y 5 z180 < x2 ∧ Y 5 z180 ≤ x1 ∧ xfm9 Y (Y 1 z180) (Y 2 z180) (Y 5 z180) z180 = 0 then _ else _)); rw [if_pos (by have h7 := k238; rcases h7 with h7 | h7; (exfalso; omega); (refine ⟨by omega, by omega, ?_⟩; have h5 := h7.2.2; rw [show z237 = z180 by omega] at h5; exact h5)), ← k244, ← k249, ← show z250 = xwp (z243 - z248) from xwp.of ez250 (by omega)]; have hz9 := (xwp.of ez252 (by omega) : z252 = xwp _); rw [hz9]; congr 2; split <;> omega) (by omega) (by omega)
  exact P216 ((300 - 0 : Int).toNat + 1) 0 (by omega) (by omega) 0 (by omega) (by omega) (xwp.id (by decide)).symm (by omega) (by omega)

set_option maxHeartbeats 4000000 in
set_option maxRecDepth 100000 in
theorem m_falseCounts (l : Launch) (D : va_G) (kA : Nat → ClassId) (b0 : Nat) (t0 : Nat → Nat) (S : xT) (g : xG) (a0 : Nat) (x1 : Int) (m0 : Nat) (bn : Nat) (bo : Nat) (nu : Int) (nb : Int) (lg : Nat) (lpl : Nat) (lcp : Nat) (ltl : Nat) (nc : Int) (U : Int → Nat) (B : Int → Nat) (Y : Nat → Int → Int) (YB : Nat → Int → Int) (L : Nat → Int → Int) (hs_a0 : S a0 = some (12, 0)) (hx1 : (-2147483648) ≤ x1 ∧ x1 ≤ 2147483647) (em0 : g a0 1 = .ref m0) (hs_m0 : S m0 = some (6, 0)) (ebn : g m0 2 = .ref bn) (hs_bn : S bn = some (100, 0)) (ebo : g m0 1 = .ref bo) (hs_bo : S bo = some (0, 0)) (hnu : 0 ≤ nu ∧ nu ≤ 200) (enu : g bn 2 = .int (iI nu)) (hnb : 0 ≤ nb ∧ nb ≤ 40) (enb : g bo 2 = .int (iI nb)) (elg : g a0 3 = .ref lg) (hs_lg : S lg = some (5, 0)) (elpl : g lg 0 = .ref lpl) (hs_lpl : S lpl = some (11700, 60)) (elcp : g lg 1 = .ref lcp) (hs_lcp : S lcp = some (11800, 60)) (eltl : g lg 2 = .ref ltl) (hs_ltl : S ltl = some (11900, 60)) (hnc : 0 ≤ nc ∧ nc ≤ 60) (enc : g lg 3 = .int (iI nc)) (hp0 : xLs S g) (hp1 : xUW S g bn nu nb U B Y) (hp2 : xBW S g bo nb B YB) (hp3 : xLgC nc (xv g lpl) (xv g lcp) (xv g ltl) L) : xMt l yX11_falseCounts cX11_falseCounts 2 (some .int) 5 0 0 112 D kA b0 t0 [] [.ref a0, .int (iI x1)] S g (fun (r : Option Value) (S1 : xT) (g1 : xG) => S = S1 ∧ g = g1 ∧ ∃ z : Int, r = some (.int (iI z)) ∧ 0 ≤ z ∧ z ≤ 60 ∧ (z = xzm (xfl9 L Y nc.toNat nu.toNat x1) nc.toNat)) := by
  refine xEnterI (by decide) (by simp [lg_sl, Value.category]) [(0, .ref a0), (1, .int (iI x1))] rfl ?_
  intro K E hK hret _ _ _
  refine X_aloadn hK (i := 0) 0 kd42_19.2.1 rfl rfl ?_
  refine X_getK hK fl_X11_31_12 hs_a0 elg kd42_19.2.2.1 ?_
  refine X_iloadn hK (i := 1) 1 kd42_19.2.2.2.1 rfl rfl ?_
  refine X_aloadn hK (i := 0) 0 kd42_19.2.2.2.2.1 rfl rfl ?_
  refine X_getK hK fl_X11_19_12 hs_a0 em0 kd42_19.2.2.2.2.2.1 ?_
  refine X_callV hK [.int (iI x1), .ref m0] [] lk_X11_286 (m_falseAsOf _ _ _ _ _ S g lg x1 m0 lpl lcp ltl nc bn bo nu nb U B Y YB L hs_lg (by omega) hs_m0 elpl hs_lpl elcp hs_lcp eltl hs_ltl (by omega) enc ebn hs_bn ebo hs_bo (by omega) enu (by omega) enb hp0 hp1 hp2 hp3) hs_lg ⟨by decide, rfl⟩ kd42_19.2.2.2.2.2.2.1 rfl rfl (by simp [Value.category]) (by decide) (by decide) (by decide) (by decide) (fun r1 S3 g2 pr1 qr1 hg2 => ?_)
  obtain ⟨rfl, rfl, z4, rfl, lz4, uz4, k5⟩ := pr1
  refine X_st [.int (iI z4)] rfl ?_
  exact hret _ _ _ _ _ _ _ kd42_19.2.2.2.2.2.2.2.1 ⟨rfl, rfl, z4, rfl, (by omega), (by omega), k5⟩ (Nat.le_refl _) (Nat.le_refl _)

set_option maxHeartbeats 4000000 in
set_option maxRecDepth 100000 in
theorem m_shortOf (l : Launch) (D : va_G) (kA : Nat → ClassId) (b0 : Nat) (t0 : Nat → Nat) (S : xT) (g : xG) (a0 : Nat) (x1 : Int) (td : Int) (m0 : Nat) (bn : Nat) (bo : Nat) (nu : Int) (nb : Int) (lg : Nat) (lpl : Nat) (lcp : Nat) (ltl : Nat) (nc : Int) (U : Int → Nat) (B : Int → Nat) (Y : Nat → Int → Int) (YB : Nat → Int → Int) (L : Nat → Int → Int) (hs_a0 : S a0 = some (12, 0)) (hx1 : (-2147483648) ≤ x1 ∧ x1 ≤ 2147483647) (htd : 0 ≤ td ∧ td ≤ 400) (etd : g a0 12 = .int (iI td)) (em0 : g a0 1 = .ref m0) (hs_m0 : S m0 = some (6, 0)) (ebn : g m0 2 = .ref bn) (hs_bn : S bn = some (100, 0)) (ebo : g m0 1 = .ref bo) (hs_bo : S bo = some (0, 0)) (hnu : 0 ≤ nu ∧ nu ≤ 200) (enu : g bn 2 = .int (iI nu)) (hnb : 0 ≤ nb ∧ nb ≤ 40) (enb : g bo 2 = .int (iI nb)) (elg : g a0 3 = .ref lg) (hs_lg : S lg = some (5, 0)) (elpl : g lg 0 = .ref lpl) (hs_lpl : S lpl = some (11700, 60)) (elcp : g lg 1 = .ref lcp) (hs_lcp : S lcp = some (11800, 60)) (eltl : g lg 2 = .ref ltl) (hs_ltl : S ltl = some (11900, 60)) (hnc : 0 ≤ nc ∧ nc ≤ 60) (enc : g lg 3 = .int (iI nc)) (hp0 : xLs S g) (hp1 : xUW S g bn nu nb U B Y) (hp2 : xBW S g bo nb B YB) (hp3 : xLgC nc (xv g lpl) (xv g lcp) (xv g ltl) L) : xMt l yX11_shortOf cX11_shortOf 2 (some .int) 5 0 0 114 D kA b0 t0 [] [.ref a0, .int (iI x1)] S g (fun (r : Option Value) (S1 : xT) (g1 : xG) => S = S1 ∧ g = g1 ∧ ∃ z : Int, r = some (.int (iI z)) ∧ (-2147483648) ≤ z ∧ z ≤ 2147483647 ∧ (z = xwp (xzm (xsf9 L Y nc.toNat nu.toNat td x1) nu.toNat))) := by
  refine xEnterI (by decide) (by simp [lg_sl, Value.category]) [(0, .ref a0), (1, .int (iI x1))] rfl ?_
  intro K E hK hret _ _ _
  refine X_aloadn hK (i := 0) 0 kd42_33.2.2.2.2.1 rfl rfl ?_
  refine X_getK hK fl_X11_31_12 hs_a0 elg kd42_33.2.2.2.2.2.1 ?_
  refine X_iloadn hK (i := 1) 1 kd42_33.2.2.2.2.2.2.1 rfl rfl ?_
  refine X_aloadn hK (i := 0) 0 kd42_33.2.2.2.2.2.2.2.1 rfl rfl ?_
  refine X_getK hK fl_X11_83_12 hs_a0 etd kd42_33.2.2.2.2.2.2.2.2.1 ?_
  refine X_aloadn hK (i := 0) 0 kd42_33.2.2.2.2.2.2.2.2.2.1 rfl rfl ?_
  refine X_getK hK fl_X11_19_12 hs_a0 em0 kd42_33.2.2.2.2.2.2.2.2.2.2.1 ?_
  refine X_callV hK [.int (iI x1), .int (iI td), .ref m0] [] lk_X11_290 (m_shortAsOf _ _ _ _ _ S g lg x1 td m0 lpl lcp ltl nc bn bo nu nb U B Y YB L hs_lg (by omega) (by omega) hs_m0 elpl hs_lpl elcp hs_lcp eltl hs_ltl (by omega) enc ebn hs_bn ebo hs_bo (by omega) enu (by omega) enb hp0 hp1 hp2 hp3) hs_lg ⟨by decide, rfl⟩ kd42_33.2.2.2.2.2.2.2.2.2.2.2 rfl rfl (by simp [Value.category]) (by decide) (by decide) (by decide) (by decide) (fun r1 S3 g2 pr1 qr1 hg2 => ?_)
  obtain ⟨rfl, rfl, z4, rfl, lz4, uz4, k5⟩ := pr1
  refine X_st [.int (iI z4)] rfl ?_
  exact hret _ _ _ _ _ _ _ kd42_34.1 ⟨rfl, rfl, z4, rfl, (by omega), (by omega), k5⟩ (Nat.le_refl _) (Nat.le_refl _)

set_option maxHeartbeats 4000000 in
set_option maxRecDepth 100000 in
theorem m_add (l : Launch) (D : va_G) (kA : Nat → ClassId) (b0 : Nat) (t0 : Nat → Nat) (S : xT) (g : xG) (a0 : Nat) (x1 : Int) (x2 : Int) (x3 : Int) (lpl : Nat) (lcp : Nat) (ltl : Nat) (nc : Int) (L : Nat → Int → Int) (qp : Int) (qc : Int) (qd : Int) (hs_a0 : S a0 = some (5, 0)) (hx1 : (-2147483648) ≤ x1 ∧ x1 ≤ 2147483647) (hx2 : (-2147483648) ≤ x2 ∧ x2 ≤ 2147483647) (hx3 : (-2147483648) ≤ x3 ∧ x3 ≤ 2147483647) (elpl : g a0 0 = .ref lpl) (hs_lpl : S lpl = some (11700, 60)) (elcp : g a0 1 = .ref lcp) (hs_lcp : S lcp = some (11800, 60)) (eltl : g a0 2 = .ref ltl) (hs_ltl : S ltl = some (11900, 60)) (hnc : 0 ≤ nc ∧ nc ≤ 60) (enc : g a0 3 = .int (iI nc)) (hp0 : xLgC nc (xv g lpl) (xv g lcp) (xv g ltl) L) (hp1 : x1 = (4 * qd + qp) * 10 + qc) (hp2 : (0 ≤ qp ∧ qp ≤ 3) ∧ (0 ≤ qc ∧ qc ≤ 9) ∧ (0 ≤ qd ∧ qd ≤ 399)) : xMt l yX4_add cX4_add 4 none 0 0 0 0 D kA b0 t0 [(11700, 0), (11800, 0), (11900, 0), (5, 3)] [.ref a0, .int (iI x1), .int (iI x2), .int (iI x3)] S g (fun (r : Option Value) (S1 : xT) (g1 : xG) => S = S1 ∧ r = none ∧ (g1 a0 3 = .int (iI (if nc < 60 then nc + 1 else nc))) ∧ (xLgC (if nc < 60 then nc + 1 else nc) (xv g1 lpl) (xv g1 lcp) (xv g1 ltl) (if nc < 60 then xylg L nc qp qc qd x2 x3 else L))) := by
  refine xEnterV (by decide) (by simp [lg_sl, Value.category]) [(0, .ref a0), (1, .int (iI x1)), (2, .int (iI x2)), (3, .int (iI x3))] rfl ?_
  intro K E hK hret _ _ _
  refine X_aloadn hK (i := 0) 0 kd24_0.1 rfl rfl ?_
  refine X_getK hK fl_X4_21_5 hs_a0 enc kd24_0.2.1 ?_
  refine X_bipush hK kd24_0.2.2.1 (by decide) ?_
  refine X_icmp_ge hK 49 (by omega) (by omega) kd24_0.2.2.2.1 (by decide) (fun c1 => ?_) (fun c1 => ?_)
  · exact hret _ _ _ _ _ _ kd24_2.2.2.2.2.1 ⟨rfl, rfl, (enc.trans (by congr 2 <;> omega)), (by rw [if_neg (by omega), if_neg (by omega)]; exact hp0)⟩ (Nat.le_refl _) (Nat.le_refl _)
  · refine X_aloadn hK (i := 0) 0 kd24_0.2.2.2.2.1 rfl rfl ?_
    refine X_getK hK fl_X4_9_5 hs_a0 elpl kd24_0.2.2.2.2.2.1 ?_
    refine X_aloadn hK (i := 0) 0 kd24_0.2.2.2.2.2.2.1 rfl rfl ?_
    refine X_getK hK fl_X4_21_5 hs_a0 enc kd24_0.2.2.2.2.2.2.2.1 ?_
    refine X_iloadn hK (i := 1) 1 kd24_0.2.2.2.2.2.2.2.2.1 rfl rfl ?_
    refine X_iast hK hs_lpl (by decide) (by decide) sl_11700 (by omega) (by omega) (by omega) (by omega) kd24_0.2.2.2.2.2.2.2.2.2.1 (fun g2 hg2 => ?_)
    refine X_aloadn hK (i := 0) 0 kd24_0.2.2.2.2.2.2.2.2.2.2.1 rfl rfl ?_
    refine X_getK hK fl_X4_15_5 hs_a0 ((xs_a hg2 (xne hs_a0 hs_lpl (by decide))).trans elcp) kd24_0.2.2.2.2.2.2.2.2.2.2.2 ?_
    refine X_aloadn hK (i := 0) 0 kd24_1.1 rfl rfl ?_
    refine X_getK hK fl_X4_21_5 hs_a0 ((xs_a hg2 (xne hs_a0 hs_lpl (by decide))).trans enc) kd24_1.2.1 ?_
    refine X_iloadn hK (i := 2) 2 kd24_1.2.2.1 rfl rfl ?_
    refine X_iast hK hs_lcp (by decide) (by decide) sl_11800 (by omega) (by omega) (by omega) (by omega) kd24_1.2.2.2.1 (fun g3 hg3 => ?_)
    refine X_aloadn hK (i := 0) 0 kd24_1.2.2.2.2.1 rfl rfl ?_
    refine X_getK hK fl_X4_18_5 hs_a0 ((xs_a hg3 (xne hs_a0 hs_lcp (by decide))).trans ((xs_a hg2 (xne hs_a0 hs_lpl (by decide))).trans eltl)) kd24_1.2.2.2.2.2.1 ?_
    refine X_aloadn hK (i := 0) 0 kd24_1.2.2.2.2.2.2.1 rfl rfl ?_
    refine X_getK hK fl_X4_21_5 hs_a0 ((xs_a hg3 (xne hs_a0 hs_lcp (by decide))).trans ((xs_a hg2 (xne hs_a0 hs_lpl (by decide))).trans enc)) kd24_1.2.2.2.2.2.2.2.1 ?_
    refine X_iloadn hK (i := 3) 3 kd24_1.2.2.2.2.2.2.2.2.1 rfl rfl ?_
    refine X_iast hK hs_ltl (by decide) (by decide) sl_11900 (by omega) (by omega) (by omega) (by omega) kd24_1.2.2.2.2.2.2.2.2.2.1 (fun g4 hg4 => ?_)
    refine X_aloadn hK (i := 0) 0 kd24_1.2.2.2.2.2.2.2.2.2.2.1 rfl rfl ?_
    refine X_dup hK kd24_1.2.2.2.2.2.2.2.2.2.2.2 rfl ?_
    refine X_getK hK fl_X4_21_5 hs_a0 ((xs_a hg4 (xne hs_a0 hs_ltl (by decide))).trans ((xs_a hg3 (xne hs_a0 hs_lcp (by decide))).trans ((xs_a hg2 (xne hs_a0 hs_lpl (by decide))).trans enc))) kd24_2.1 ?_
    refine X_iconst hK kd24_2.2.1 ?_
    refine X_iadd hK kd24_2.2.2.1 ?_
    refine X_puti hK fl_X4_21_5 hs_a0 (by decide) sl_5_3 (by omega) (by omega) kd24_2.2.2.2.1 (fun g5 hg5 => ?_)
    exact hret _ _ _ _ _ _ kd24_2.2.2.2.2.1 ⟨rfl, rfl, ((xs_s hg5).trans (by congr 2 <;> omega)), (by rw [if_pos (by omega), if_pos (by omega)]; exact xLgC.add hp0 ((show xv g5 lpl nc = x1 from by rw [(xv_a hg5 (xne hs_lpl hs_a0 (by decide))), (xv_a hg4 (xne hs_lpl hs_ltl (by decide))), (xv_a hg3 (xne hs_lpl hs_lcp (by decide))), xv_s hg2 (by omega)]).trans hp1) (fun i9 hi9 h09 => (show xv g5 lpl i9 = xv g lpl i9 from by rw [(xv_a hg5 (xne hs_lpl hs_a0 (by decide))), (xv_a hg4 (xne hs_lpl hs_ltl (by decide))), (xv_a hg3 (xne hs_lpl hs_lcp (by decide))), (xv_k (i := i9) hg2 (by omega) (by omega) (by omega))])) (show xv g5 lcp nc = x2 from by rw [(xv_a hg5 (xne hs_lcp hs_a0 (by decide))), (xv_a hg4 (xne hs_lcp hs_ltl (by decide))), xv_s hg3 (by omega)]) (fun i9 hi9 h09 => (show xv g5 lcp i9 = xv g lcp i9 from by rw [(xv_a hg5 (xne hs_lcp hs_a0 (by decide))), (xv_a hg4 (xne hs_lcp hs_ltl (by decide))), (xv_k (i := i9) hg3 (by omega) (by omega) (by omega)), (xv_a hg2 (xne hs_lcp hs_lpl (by decide)))])) (show xv g5 ltl nc = x3 from by rw [(xv_a hg5 (xne hs_ltl hs_a0 (by decide))), xv_s hg4 (by omega)]) (fun i9 hi9 h09 => (show xv g5 ltl i9 = xv g ltl i9 from by rw [(xv_a hg5 (xne hs_ltl hs_a0 (by decide))), (xv_k (i := i9) hg4 (by omega) (by omega) (by omega)), (xv_a hg3 (xne hs_ltl hs_lcp (by decide))), (xv_a hg2 (xne hs_ltl hs_lpl (by decide)))])) hp2.1 hp2.2.1 hp2.2.2)⟩ (Nat.le_refl _) (Nat.le_refl _)

set_option maxHeartbeats 4000000 in
set_option maxRecDepth 100000 in
theorem m_counted (l : Launch) (D : va_G) (kA : Nat → ClassId) (b0 : Nat) (t0 : Nat → Nat) (S : xT) (g : xG) (a0 : Nat) (x1 : Int) (x2 : Int) (x3 : Int) (x4 : Int) (td : Int) (lg : Nat) (lpl : Nat) (lcp : Nat) (ltl : Nat) (nc : Int) (L : Nat → Int → Int) (hs_a0 : S a0 = some (12, 0)) (hx1 : (-2147483648) ≤ x1 ∧ x1 ≤ 2147483647) (hx2 : (-2147483648) ≤ x2 ∧ x2 ≤ 2147483647) (hx3 : (-2147483648) ≤ x3 ∧ x3 ≤ 2147483647) (hx4 : (-2147483648) ≤ x4 ∧ x4 ≤ 2147483647) (htd : 0 ≤ td ∧ td ≤ 400) (etd : g a0 12 = .int (iI td)) (elg : g a0 3 = .ref lg) (hs_lg : S lg = some (5, 0)) (elpl : g lg 0 = .ref lpl) (hs_lpl : S lpl = some (11700, 60)) (elcp : g lg 1 = .ref lcp) (hs_lcp : S lcp = some (11800, 60)) (eltl : g lg 2 = .ref ltl) (hs_ltl : S ltl = some (11900, 60)) (hnc : 0 ≤ nc ∧ nc ≤ 60) (enc : g lg 3 = .int (iI nc)) (hp0 : xLgC nc (xv g lpl) (xv g lcp) (xv g ltl) L) : xMt l yX11_counted cX11_counted 5 (some .int) 2 0 0 42 D kA b0 t0 [(11700, 0), (11800, 0), (11900, 0), (5, 3)] [.ref a0, .int (iI x1), .int (iI x2), .int (iI x3), .int (iI x4)] S g (fun (r : Option Value) (S1 : xT) (g1 : xG) => S = S1 ∧ ∃ z : Int, r = some (.int (iI z)) ∧ (-1) ≤ z ∧ z ≤ 59 ∧ (z = if nc < 60 ∧ 0 ≤ x1 ∧ x1 ≤ 3 ∧ 0 ≤ x2 ∧ x2 ≤ 9 ∧ 0 ≤ x3 ∧ x3 < td ∧ 0 ≤ x4 ∧ x4 ≤ 10000 then nc else -1) ∧ (g1 lg 3 = .int (iI (if nc < 60 ∧ 0 ≤ x1 ∧ x1 ≤ 3 ∧ 0 ≤ x2 ∧ x2 ≤ 9 ∧ 0 ≤ x3 ∧ x3 < td ∧ 0 ≤ x4 ∧ x4 ≤ 10000 then nc + 1 else nc))) ∧ (xLgC (if nc < 60 ∧ 0 ≤ x1 ∧ x1 ≤ 3 ∧ 0 ≤ x2 ∧ x2 ≤ 9 ∧ 0 ≤ x3 ∧ x3 < td ∧ 0 ≤ x4 ∧ x4 ≤ 10000 then nc + 1 else nc) (xv g1 lpl) (xv g1 lcp) (xv g1 ltl) (if nc < 60 ∧ 0 ≤ x1 ∧ x1 ≤ 3 ∧ 0 ≤ x2 ∧ x2 ≤ 9 ∧ 0 ≤ x3 ∧ x3 < td ∧ 0 ≤ x4 ∧ x4 ≤ 10000 then xylg L nc x1 x2 x3 x4 td else L))) := by
  refine xEnterI (by decide) (by simp [lg_sl, Value.category]) [(0, .ref a0), (1, .int (iI x1)), (2, .int (iI x2)), (3, .int (iI x3)), (4, .int (iI x4))] rfl ?_
  intro K E hK hret _ _ _
  refine X_aloadn hK (i := 0) 0 kd42_14.1 rfl rfl ?_
  refine X_getK hK fl_X11_31_12 hs_a0 elg kd42_14.2.1 ?_
  refine X_getK hK fl_X11_278_5 hs_lg enc kd42_14.2.2.1 ?_
  refine X_bipush hK kd42_14.2.2.2.1 (by decide) ?_
  refine X_icmp_ge hK 52 (by omega) (by omega) kd42_14.2.2.2.2.1 (by decide) (fun c1 => ?_) (fun c1 => ?_)
  · refine X_iconst hK kd42_16.1 ?_
    exact hret _ _ _ _ _ _ _ kd42_16.2.1 ⟨rfl, (-1), rfl, (by omega), (by omega), (by omega), (enc.trans (by congr 2 <;> omega)), (by rw [if_neg (by omega), if_neg (by omega)]; exact hp0)⟩ (Nat.le_refl _) (Nat.le_refl _)
  · refine X_iloadn hK (i := 1) 1 kd42_14.2.2.2.2.2.1 rfl rfl ?_
    refine X_callS hK [.int (iI x1)] [] lk_X11_165 (c_X11_isPaper _ _ _ _ _ S g x1 (by omega)) kd42_14.2.2.2.2.2.2.1 rfl rfl (by simp [Value.category]) (by decide) (by decide) (by decide) (by decide) (fun r2 S4 g3 pr2 qr2 hg3 => ?_)
    obtain ⟨rfl, rfl, z5, rfl, lz5, uz5, k6⟩ := pr2
    refine X_st [.int (iI z5)] rfl ?_
    refine X_if_eq hK 52 (by omega) kd42_14.2.2.2.2.2.2.2.1 (by decide) (fun c7 => ?_) (fun c7 => ?_)
    · refine X_iconst hK kd42_16.1 ?_
      exact hret _ _ _ _ _ _ _ kd42_16.2.1 ⟨rfl, (-1), rfl, (by omega), (by omega), (by omega), (enc.trans (by congr 2 <;> omega)), (by rw [if_neg (by omega), if_neg (by omega)]; exact hp0)⟩ (Nat.le_refl _) (Nat.le_refl _)
    · refine X_iloadn hK (i := 2) 2 kd42_14.2.2.2.2.2.2.2.2.1 rfl rfl ?_
      refine X_callS hK [.int (iI x2)] [] lk_X11_142 (c_X11_isCorner _ _ _ _ _ S g x2 (by omega)) kd42_14.2.2.2.2.2.2.2.2.2.1 rfl rfl (by simp [Value.category]) (by decide) (by decide) (by decide) (by decide) (fun r8 S10 g9 pr8 qr8 hg9 => ?_)
      obtain ⟨rfl, rfl, z11, rfl, lz11, uz11, k12⟩ := pr8
      refine X_st [.int (iI z11)] rfl ?_
      refine X_if_eq hK 52 (by omega) kd42_14.2.2.2.2.2.2.2.2.2.2.1 (by decide) (fun c13 => ?_) (fun c13 => ?_)
      · refine X_iconst hK kd42_16.1 ?_
        exact hret _ _ _ _ _ _ _ kd42_16.2.1 ⟨rfl, (-1), rfl, (by omega), (by omega), (by omega), (enc.trans (by congr 2 <;> omega)), (by rw [if_neg (by omega), if_neg (by omega)]; exact hp0)⟩ (Nat.le_refl _) (Nat.le_refl _)
      · refine X_iloadn hK (i := 3) 3 kd42_14.2.2.2.2.2.2.2.2.2.2.2 rfl rfl ?_
        refine X_iconst hK kd42_15.1 ?_
        refine X_aloadn hK (i := 0) 0 kd42_15.2.1 rfl rfl ?_
        refine X_getK hK fl_X11_83_12 hs_a0 etd kd42_15.2.2.1 ?_
        refine X_iconst hK kd42_15.2.2.2.1 ?_
        refine X_isub hK kd42_15.2.2.2.2.1 ?_
        refine X_callS hK [.int (iI x3), .int (iI 0), .int (iI (td - 1))] [] lk_X11_115 (c_X11_within _ _ _ _ _ S g x3 0 (td - 1) (by omega) (by omega) (by omega)) kd42_15.2.2.2.2.2.1 rfl rfl (by simp [Value.category]) (by decide) (by decide) (by decide) (by decide) (fun r14 S16 g15 pr14 qr14 hg15 => ?_)
        obtain ⟨rfl, rfl, z17, rfl, lz17, uz17, k18⟩ := pr14
        refine X_st [.int (iI z17)] rfl ?_
        refine X_if_eq hK 52 (by omega) kd42_15.2.2.2.2.2.2.1 (by decide) (fun c19 => ?_) (fun c19 => ?_)
        · refine X_iconst hK kd42_16.1 ?_
          exact hret _ _ _ _ _ _ _ kd42_16.2.1 ⟨rfl, (-1), rfl, (by omega), (by omega), (by omega), (enc.trans (by congr 2 <;> omega)), (by rw [if_neg (by omega), if_neg (by omega)]; exact hp0)⟩ (Nat.le_refl _) (Nat.le_refl _)
        · refine X_iload hK (i := 4) 4 kd42_15.2.2.2.2.2.2.2.1 rfl ?_
          refine X_iconst hK kd42_15.2.2.2.2.2.2.2.2.1 ?_
          refine X_sipush hK kd42_15.2.2.2.2.2.2.2.2.2.1 (by decide) ?_
          refine X_callS hK [.int (iI x4), .int (iI 0), .int (iI 10000)] [] lk_X11_115 (c_X11_within _ _ _ _ _ S g x4 0 10000 (by omega) (by omega) (by omega)) kd42_15.2.2.2.2.2.2.2.2.2.2.1 rfl rfl (by simp [Value.category]) (by decide) (by decide) (by decide) (by decide) (fun r20 S22 g21 pr20 qr20 hg21 => ?_)
          obtain ⟨rfl, rfl, z23, rfl, lz23, uz23, k24⟩ := pr20
          refine X_st [.int (iI z23)] rfl ?_
          refine X_if_ne hK 54 (by omega) kd42_15.2.2.2.2.2.2.2.2.2.2.2 (by decide) (fun c25 => ?_) (fun c25 => ?_)
          · refine X_aloadn hK (i := 0) 0 kd42_16.2.2.1 rfl rfl ?_
            refine X_getK hK fl_X11_31_12 hs_a0 elg kd42_16.2.2.2.1 ?_
            refine X_iloadn hK (i := 3) 3 kd42_16.2.2.2.2.1 rfl rfl ?_
            refine X_iloadn hK (i := 1) 1 kd42_16.2.2.2.2.2.1 rfl rfl ?_
            refine X_iloadn hK (i := 2) 2 kd42_16.2.2.2.2.2.2.1 rfl rfl ?_
            refine X_callS hK [.int (iI x3), .int (iI x1), .int (iI x2)] [.ref lg] lk_X11_279 (m_placeOf _ _ _ _ _ S g x3 x1 x2 (by omega) (by omega) (by omega)) kd42_16.2.2.2.2.2.2.2.1 rfl rfl (by simp [Value.category]) (by decide) (by decide) (by decide) (by decide) (fun r26 S28 g27 pr26 qr26 hg27 => ?_)
            obtain ⟨rfl, rfl, z29, rfl, lz29, uz29, k30⟩ := pr26
            refine X_st [.int (iI z29), .ref lg] rfl ?_
            refine X_iload hK (i := 4) 4 kd42_16.2.2.2.2.2.2.2.2.1 rfl ?_
            refine X_aloadn hK (i := 0) 0 kd42_16.2.2.2.2.2.2.2.2.2.1 rfl rfl ?_
            refine X_getK hK fl_X11_83_12 hs_a0 etd kd42_16.2.2.2.2.2.2.2.2.2.2.1 ?_
            refine X_callV hK [.int (iI z29), .int (iI x4), .int (iI td)] [] lk_X11_283 (m_add _ _ _ _ _ S g lg z29 x4 td lpl lcp ltl nc L x1 x2 x3 hs_lg (by omega) (by omega) (by omega) elpl hs_lpl elcp hs_lcp eltl hs_ltl (by omega) enc hp0 k30 ⟨by omega, by omega, by omega⟩) hs_lg ⟨by decide, rfl⟩ kd42_16.2.2.2.2.2.2.2.2.2.2.2 rfl rfl (by simp [Value.category]) (by decide) (by decide) (by decide) (by decide) (fun r31 S33 g32 pr31 qr31 hg32 => ?_)
            obtain ⟨rfl, rfl, k34, k35⟩ := pr31
            refine X_st [] rfl ?_
            refine X_aloadn hK (i := 0) 0 kd42_17.1 rfl rfl ?_
            refine X_getK hK fl_X11_31_12 hs_a0 ((hg32 a0 12 0 3 hs_a0 (by decide)).trans elg) kd42_17.2.1 ?_
            refine X_getK hK fl_X11_278_5 hs_lg k34 kd42_17.2.2.1 ?_
            refine X_iconst hK kd42_17.2.2.2.1 ?_
            refine X_isub hK kd42_17.2.2.2.2.1 ?_
            exact hret _ _ _ _ _ _ _ kd42_17.2.2.2.2.2.1 ⟨rfl, ((if nc < 60 then nc + 1 else nc) - 1), rfl, (by omega), (by omega), (by omega), (k34.trans (by congr 2 <;> omega)), (by rw [if_pos (by omega), if_pos (by omega)]; have h9 := k35; rw [if_pos (by omega), if_pos (by omega)] at h9; exact h9)⟩ (Nat.le_refl _) (Nat.le_refl _)
          · refine X_iconst hK kd42_16.1 ?_
            exact hret _ _ _ _ _ _ _ kd42_16.2.1 ⟨rfl, (-1), rfl, (by omega), (by omega), (by omega), (enc.trans (by congr 2 <;> omega)), (by rw [if_neg (by omega), if_neg (by omega)]; exact hp0)⟩ (Nat.le_refl _) (Nat.le_refl _)
