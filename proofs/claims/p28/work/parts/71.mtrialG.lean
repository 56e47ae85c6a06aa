
def xStq (st st0 : Int → Int) (b n : Int) (L : List xS3) : Prop := n = b + L.length ∧ (∀ j : Int, 0 ≤ j → j < L.length → st (b + j) = xec9 (L.getD j.toNat (0, 0, 0))) ∧ (∀ j : Int, 0 ≤ j → j < b → st j = st0 j)
theorem xStq.z {st : Int → Int} {b : Int} : xStq st st b b [] := ⟨by show b = b + ((0 : Nat) : Int); omega, fun j q1 q2 => absurd q2 (by show ¬ (j < ((0 : Nat) : Int)); omega), fun _ _ _ => rfl⟩
theorem xStq.add {st st0 st' : Int → Int} {b n : Int} {L : List xS3} {x : xS3} (h : xStq st st0 b n L) (hb : 0 ≤ b) (h1 : st' n = xec9 x) (h2 : ∀ j : Int, 0 ≤ j → j ≠ n → st' j = st j) : xStq st' st0 b (n + 1) (L ++ [x]) := by
  obtain ⟨e, w, u⟩ := h
  refine ⟨by rw [xlen1, e]; omega, fun j q1 q2 => ?_, fun j q1 q2 => by rw [h2 j q1 (by omega)]; exact u j q1 q2⟩
  rw [xlen1] at q2
  by_cases c : j = L.length
  · rw [show b + j = n by omega, h1, List.getD_eq_getElem?_getD, List.getElem?_append_right (by omega), show j.toNat - L.length = 0 by omega]
    rfl
  · rw [h2 (b + j) (by omega) (by omega), w j q1 (by omega), List.getD_eq_getElem?_getD, List.getD_eq_getElem?_getD, List.getElem?_append_left (by omega)]
theorem xStq.cg {st st0 st' : Int → Int} {b n : Int} {L : List xS3} (h : xStq st st0 b n L) (e : st' = st) : xStq st' st0 b n L := by rw [e]; exact h
theorem xwfa {L : List xS3} {x : xS3} (h : ∀ y ∈ L, xwf9 y) (hx : xwf9 x) : ∀ y ∈ L ++ [x], xwf9 y := fun y hy => by
  rcases List.mem_append.mp hy with w | w
  · exact h y w
  · rcases List.mem_cons.mp w with e | e
    · rw [e]; exact hx
    · cases e
theorem xwf9.n {y : Int} (h : y = 12 ∨ y = 13 ∨ y = 14) : xwf9 (y, 0, 0) := by
  unfold xwf9
  rcases h with e | e | e <;> subst e <;> decide
theorem xP.wf {tk : Int → Int} (ht : ∀ i, tk i ≤ 10099) : ∀ (k : Nat) (m d a o : Int) (L : List xS3) (r : xRr9), xP tk k m d a o L = some r → (m = 0 ∨ m = 1 ∨ m = 2 ∨ m = 3 ∨ m = 4) → r.1 = 0 → (∀ x ∈ L, xwf9 x) → ∀ x ∈ r.2.2.2, xwf9 x := by
  intro k
  induction k with
  | zero => intro m d a o L r h; cases h
  | succ k ih =>
    intro m d a o L r h hm r0 hL
    rcases hm with e | e | e | e | e <;> subst e
    · by_cases c1 : ¬ (10 ≤ tk a ∧ tk a ≤ 21) ∧ tk a ≠ 7 ∧ tk a ≠ 25
      · have := xQ.det ⟨_, h⟩ (xQ.f1 (d := d) (o := o) (L := L) c1)
        rw [this] at r0
        cases r0
      · by_cases c2 : 50 ≤ o ∨ 10 < d
        · have := xQ.det ⟨_, h⟩ (xQ.f4 (L := L) c1 c2)
          rw [this] at r0
          cases r0
        · by_cases c3 : tk a = 25
          · rw [xP.par c3 c2] at h
            cases hq : xP tk k 2 (d + 1) (a + 1) (o + 1) L with
            | none => rw [hq] at h; cases h
            | some q =>
              rw [hq] at h
              have e : xPar tk q = r := Option.some.inj h
              unfold xPar at e
              by_cases c : q.1 ≠ 0
              · rw [if_pos c] at e
                rw [e] at c
                exact absurd r0 c
              · rw [if_neg c] at e
                have w := ih _ _ _ _ _ _ hq (by omega) (by omega) hL
                by_cases cc : tk q.2.1 = 26
                · rw [if_pos cc] at e
                  rw [← e]
                  exact w
                · rw [if_neg cc] at e
                  rw [← e] at r0
                  cases r0
          · by_cases c4 : tk a = 7
            · rw [xP.nt c4 c2] at h
              cases hq : xP tk k 0 (d + 1) (a + 1) (o + 1) L with
              | none => rw [hq] at h; cases h
              | some q =>
                rw [hq] at h
                have e : xEm9 (12, 0, 0) q = r := Option.some.inj h
                unfold xEm9 at e
                by_cases c : q.1 ≠ 0
                · rw [if_pos c] at e
                  rw [e] at c
                  exact absurd r0 c
                · rw [if_neg c] at e
                  have w := ih _ _ _ _ _ _ hq (by omega) (by omega) hL
                  rw [← e]
                  exact xwfa w (xwf9.n (by omega))
            · have c5 : 10 ≤ tk a ∧ tk a ≤ 21 := by omega
              by_cases c6 : tk a < 13
              · have := xQ.det ⟨_, h⟩ (xQ.flag (L := L) (by omega) c2)
                rw [this]
                exact xwfa hL (by show 0 ≤ tk a - 10 ∧ tk a - 10 ≤ 14 ∧ (0 : Int) ≤ 2 ∧ (2 : Int) ≤ 2 ∧ (0 : Int) ≤ 0 ∧ (0 : Int) ≤ 9999; omega)
              · by_cases c7 : 27 ≤ tk (a + 1) ∧ tk (a + 1) ≤ 29
                · by_cases c8 : tk (a + 2) < 100
                  · have := xQ.det ⟨_, h⟩ (xQ.fn (L := L) (by omega) c2 c7 c8)
                    rw [this] at r0
                    cases r0
                  · have := xQ.det ⟨_, h⟩ (xQ.cmp (L := L) (by omega) c2 c7 (by omega))
                    rw [this]
                    have h9 := ht (a + 2)
                    exact xwfa hL (by show 0 ≤ tk a - 10 ∧ tk a - 10 ≤ 14 ∧ 0 ≤ tk (a + 1) - 27 ∧ tk (a + 1) - 27 ≤ 2 ∧ 0 ≤ tk (a + 2) - 100 ∧ tk (a + 2) - 100 ≤ 9999; omega)
                · have := xQ.det ⟨_, h⟩ (xQ.fs (L := L) (by omega) c2 c7)
                  rw [this] at r0
                  cases r0
    · rw [xP.e1] at h
      obtain ⟨q, h1, h2⟩ := xbnd h
      by_cases c : q.1 ≠ 0
      · rw [if_pos c] at h2
        rw [Option.some.inj h2] at c
        exact absurd r0 c
      · rw [if_neg c] at h2
        have w := ih _ _ _ _ _ _ h1 (by omega) (by omega) hL
        exact ih _ _ _ _ _ _ h2 (by omega) r0 w
    · rw [xP.e2] at h
      obtain ⟨q, h1, h2⟩ := xbnd h
      by_cases c : q.1 ≠ 0
      · rw [if_pos c] at h2
        rw [Option.some.inj h2] at c
        exact absurd r0 c
      · rw [if_neg c] at h2
        have w := ih _ _ _ _ _ _ h1 (by omega) (by omega) hL
        exact ih _ _ _ _ _ _ h2 (by omega) r0 w
    · rw [xP.e3] at h
      by_cases c8 : tk a = 8
      · rw [if_pos c8] at h
        obtain ⟨q, h1, h2⟩ := xbnd h
        by_cases c : q.1 ≠ 0
        · rw [if_pos c] at h2
          rw [Option.some.inj h2] at c
          exact absurd r0 c
        · rw [if_neg c] at h2
          have w := ih _ _ _ _ _ _ h1 (by omega) (by omega) hL
          exact ih _ _ _ _ _ _ h2 (by omega) r0 (xwfa w (xwf9.n (by omega)))
      · rw [if_neg c8] at h
        rw [← Option.some.inj h]
        exact hL
    · rw [xP.e4] at h
      by_cases c8 : tk a = 9
      · rw [if_pos c8] at h
        obtain ⟨q, h1, h2⟩ := xbnd h
        by_cases c : q.1 ≠ 0
        · rw [if_pos c] at h2
          rw [Option.some.inj h2] at c
          exact absurd r0 c
        · rw [if_neg c] at h2
          have w := ih _ _ _ _ _ _ h1 (by omega) (by omega) hL
          exact ih _ _ _ _ _ _ h2 (by omega) r0 (xwfa w (xwf9.n (by omega)))
      · rw [if_neg c8] at h
        rw [← Option.some.inj h]
        exact hL
theorem xQ.ck {tk : Int → Int} (ht : ∀ i, tk i ≤ 10099) {a o : Int} {r : xRr9} (h : xQ tk 2 1 a o [] r) (e : r.1 = 0) : xck9 r.2.2.2 := by
  refine ⟨Or.inr (fun F => ?_), fun j hj => ?_⟩
  · obtain ⟨M, w1, w2⟩ := h.sh e F
    rw [w1]
    exact w2
  · obtain ⟨k, h⟩ := h
    refine xP.wf ht k 2 1 a o [] r h (by omega) e (fun x hx => by cases hx) _ ?_
    rw [List.getD_eq_getElem?_getD, List.getElem?_eq_getElem hj]
    exact List.getElem_mem hj
theorem xtk.le {f : Int → Int} {n i : Int} : xtk f n i ≤ 10099 := by
  unfold xtk xcd
  generalize xtp f n i.toNat = s
  by_cases c : s < n ∧ s < 300
  · rw [if_pos c]
    by_cases c2 : xch9 (f s)
    · rw [if_pos c2]
      have ge := xnen.ge (f := f) (n := n) (n - s).toNat s (Nat.le_refl _)
      generalize xnen f n s = e at ge
      have b := xdg.b (f := f) (s := s) (e - s).toNat
      unfold xnc
      by_cases d1 : (xdg f s (e - s).toNat).1 = e - s
      · rw [if_pos d1]
        by_cases d2 : (xdg f s (e - s).toNat).1 ≤ 4
        · rw [if_pos d2]
          have := b.2.2.2.2.2.2.2
          omega
        · rw [if_neg d2]; omega
      · rw [if_neg d1]
        by_cases d2 : (xdg f s (e - s).toNat).1 = 0
        · rw [if_pos d2]
          rw [xWS_jn, xwf.jn (by omega) xwl 0 xwl_b]
          have len : xwl.length = 22 := by decide
          rcases xfi.sp (f := f) (s := s) (k := e - s) xwl 0 with ⟨i, i1, i2, i3⟩ | ⟨i1, i2⟩
          · omega
          · omega
        · rw [if_neg d2]; omega
    · rw [if_neg c2]
      have := xmkc.r (f s)
      omega
  · rw [if_neg c]; omega
def xLx (tk : Int → Int) (a o : Int) (x : xL3) : Prop := x.1 = tk a ∧ x.2.1 = (if tk a = 4 then (if tk (a + 1) = 7 then 0 else 1) else tk (a + 1) - 100) ∧ ∃ b, xLb tk a b ∧ ((tk a ≠ 5 ∧ tk b = 6 ∧ ∃ r : xRr9, xQ tk 2 1 (b + 1) o [] r ∧ r.1 = 0 ∧ x.2.2 = r.2.2.2) ∨ (¬ (tk a ≠ 5 ∧ tk b = 6) ∧ x.2.2 = []))
theorem xLx.det {tk : Int → Int} {a o : Int} {x x' : xL3} (h : xLx tk a o x) (h' : xLx tk a o x') : x = x' := by
  obtain ⟨a1, a2, b, hb, a3⟩ := h
  obtain ⟨b1, b2, b', hb', b3⟩ := h'
  have e := hb.det hb'
  subst e
  obtain ⟨x1, x2, x3⟩ := x
  obtain ⟨y1, y2, y3⟩ := x'
  have e1 : x1 = y1 := a1.trans b1.symm
  have e2 : x2 = y2 := a2.trans b2.symm
  have e3 : x3 = y3 := by
    rcases a3 with ⟨c1, c2, r, c3, c4, c5⟩ | ⟨c1, c2⟩
    · rcases b3 with ⟨d1, d2, r', d3, d4, d5⟩ | ⟨d1, d2⟩
      · have er := c3.det d3
        rw [er] at c5
        exact c5.trans d5.symm
      · exact absurd ⟨c1, c2⟩ d1
    · rcases b3 with ⟨d1, d2, r', d3, d4, d5⟩ | ⟨d1, d2⟩
      · exact absurd ⟨d1, d2⟩ c1
      · exact c2.trans d2.symm
  rw [e1, e2, e3]
theorem xLx.ok {tk : Int → Int} (ht : ∀ i, tk i ≤ 10099) {a o : Int} {x : xL3} (h : xLx tk a o x) : xln9 x := by
  obtain ⟨a1, a2, b, hb, a3⟩ := h
  refine ⟨?_, ?_⟩
  · rcases a3 with ⟨c1, c2, r, c3, c4, c5⟩ | ⟨c1, c2⟩
    · rw [c5]; exact c3.ck ht c4
    · rw [c2]; exact ⟨Or.inl rfl, fun j hj => absurd hj (Nat.not_lt_zero _)⟩
  · clear a3
    unfold xLb at hb
    rw [a2]
    (repeat' split) <;> omega
def xTg (tk tl : Int → Int) : Nat → Int → Int → Int → Int → Int → Int → Int → List xL3 → Prop
  | 0, a, _, nl, _, F, m, q, T => tk a = 23 ∧ F = 0 ∧ m = nl ∧ q = tl a ∧ T = []
  | k + 1, a, o, nl, ow, F, m, q, T => tk a ≠ 23 ∧ ∃ F1 a1 o1 nl1 ow1 q1, xLn tk tl a o nl ow F1 a1 o1 nl1 ow1 q1 ∧ ((F1 ≠ 0 ∧ F = F1 ∧ q = q1) ∨ (F1 = 0 ∧ ∃ x T', xLx tk a o x ∧ (F = 0 → T = x :: T') ∧ xTg tk tl k a1 o1 nl1 ow1 F m q T'))
def xTG (tk tl : Int → Int) (a o nl ow F m q : Int) (T : List xL3) : Prop := ∃ k, xTg tk tl k a o nl ow F m q T
theorem xTg.det {tk tl : Int → Int} : ∀ (k k' : Nat) (a o nl ow F m q F' m' q' : Int) (T T' : List xL3), xTg tk tl k a o nl ow F m q T → xTg tk tl k' a o nl ow F' m' q' T' → F = F' ∧ (F = 0 → m = m' ∧ T = T') ∧ q = q' := by
  intro k
  induction k with
  | zero =>
    intro k' a o nl ow F m q F' m' q' T T' h h'
    obtain ⟨a1, a2, a3, a4, a5⟩ := h
    cases k' with
    | zero =>
      obtain ⟨b1, b2, b3, b4, b5⟩ := h'
      exact ⟨by omega, fun _ => ⟨by omega, by rw [a5, b5]⟩, by rw [a4, b4]⟩
    | succ k' => exact absurd a1 h'.1
  | succ k ih =>
    intro k' a o nl ow F m q F' m' q' T T' h h'
    obtain ⟨a1, F1, x1, o1, nl1, ow1, q1, a2, a3⟩ := h
    cases k' with
    | zero => exact absurd h'.1 a1
    | succ k' =>
      obtain ⟨b1, F2, x2, o2, nl2, ow2, q2, b2, b3⟩ := h'
      obtain ⟨e1, e2, e3⟩ := a2.det b2
      rcases a3 with ⟨u1, u2, u3⟩ | ⟨u1, x, Tx, ux, u2, u3⟩
      · rcases b3 with ⟨v1, v2, v3⟩ | ⟨v1, y, Ty, vy, v2, v3⟩
        · exact ⟨by omega, fun w => by omega, by rw [u3, v3]; exact e3 u1⟩
        · omega
      · rcases b3 with ⟨v1, v2, v3⟩ | ⟨v1, y, Ty, vy, v2, v3⟩
        · omega
        · obtain ⟨t1, t2, t3, t4⟩ := e2 u1
          subst t1
          subst t2
          subst t3
          subst t4
          obtain ⟨w1, w2, w3⟩ := ih k' _ _ _ _ _ _ _ _ _ _ _ _ u3 v3
          refine ⟨w1, fun w => ?_, w3⟩
          obtain ⟨z1, z2⟩ := w2 w
          exact ⟨z1, by rw [u2 w, v2 (by omega), ux.det vy, z2]⟩
theorem xTG.det {tk tl : Int → Int} {a o nl ow F m q F' m' q' : Int} {T T' : List xL3} (h : xTG tk tl a o nl ow F m q T) (h' : xTG tk tl a o nl ow F' m' q' T') : F = F' ∧ (F = 0 → m = m' ∧ T = T') ∧ q = q' := by
  obtain ⟨k, h⟩ := h
  obtain ⟨k', h'⟩ := h'
  exact xTg.det k k' _ _ _ _ _ _ _ _ _ _ _ _ h h'
def xTj (tk tl : Int → Int) (F a o nl ow q : Int) (T0 : List xL3) : Prop := (F = 0 → ∀ F2 m2 q2 T2, xTG tk tl a o nl ow F2 m2 q2 T2 → xTG tk tl 0 0 0 0 F2 m2 q2 (T0 ++ T2)) ∧ (F ≠ 0 → ∀ m2 T2, xTG tk tl 0 0 0 0 F m2 q T2)
theorem xTj.z {tk tl : Int → Int} {q : Int} : xTj tk tl 0 0 0 0 0 q [] := ⟨fun _ F2 m2 q2 T2 h => h, fun h => absurd rfl h⟩
theorem xTG.an {tk tl : Int → Int} : ∀ (k : Nat) (a o nl ow F m q : Int) (T T' : List xL3), xTg tk tl k a o nl ow F m q T → F ≠ 0 → xTg tk tl k a o nl ow F m q T' := by
  intro k
  induction k with
  | zero => intro a o nl ow F m q T T' h e; exact absurd h.2.1 e
  | succ k ih =>
    intro a o nl ow F m q T T' h e
    obtain ⟨a1, F1, x1, o1, nl1, ow1, q1, a2, a3⟩ := h
    refine ⟨a1, F1, x1, o1, nl1, ow1, q1, a2, ?_⟩
    rcases a3 with u | ⟨u1, x, Tx, ux, u2, u3⟩
    · exact Or.inl u
    · exact Or.inr ⟨u1, x, Tx, ux, fun w => absurd w e, u3⟩
theorem xTj.nx {tk tl : Int → Int} {F a o nl ow q F1 a1 o1 nl1 ow1 q1 : Int} {T0 : List xL3} {x : xL3} (h : xTj tk tl F a o nl ow q T0) (e : F = 0) (h23 : tk a ≠ 23) (hl : xLn tk tl a o nl ow F1 a1 o1 nl1 ow1 q1) (hx : F1 = 0 → xLx tk a o x) : xTj tk tl F1 a1 o1 nl1 ow1 q1 (T0 ++ [x]) := by
  refine ⟨fun c F2 m2 q2 T2 w => ?_, fun c m2 T2 => ?_⟩
  · obtain ⟨k, w⟩ := w
    have u := h.1 e F2 m2 q2 (x :: T2) ⟨k + 1, h23, F1, a1, o1, nl1, ow1, q1, hl, Or.inr ⟨c, x, T2, hx c, fun _ => rfl, w⟩⟩
    rw [List.append_assoc]
    exact u
  · obtain ⟨k, u⟩ := h.1 e F1 m2 q1 T2 ⟨1, h23, F1, a1, o1, nl1, ow1, q1, hl, Or.inl ⟨c, rfl, rfl⟩⟩
    exact ⟨k, xTG.an k _ _ _ _ _ _ _ _ _ u c⟩
theorem xTj.e {tk tl : Int → Int} {F a o nl ow q : Int} {T0 : List xL3} (h : xTj tk tl F a o nl ow q T0) (e : F = 0 → tk a = 23) : xTG tk tl 0 0 0 0 F nl (if F = 0 then tl a else q) T0 := by
  by_cases c : F = 0
  · rw [if_pos c, c]
    have w := h.1 c 0 nl (tl a) [] ⟨0, e c, rfl, rfl, rfl, rfl⟩
    rw [List.append_nil] at w
    exact w
  · rw [if_neg c]; exact h.2 c nl T0
def xTXg (f : Int → Int) (n F m q : Int) (T : List xL3) : Prop := ∃ F0 q0, xTG (xtk f n) (xtl f n) 0 0 0 0 F0 m q0 T ∧ ((¬ (300 < n ∧ F0 = 0) ∧ F = F0 ∧ (F ≠ 0 → q = q0)) ∨ ((300 < n ∧ F0 = 0) ∧ F = 1 ∧ q = q0))
theorem xTXg.det {f : Int → Int} {n F m q F' m' q' : Int} {T T' : List xL3} (h : xTXg f n F m q T) (h' : xTXg f n F' m' q' T') : F = F' ∧ (F = 0 → m = m' ∧ T = T') ∧ (F ≠ 0 → q = q') := by
  obtain ⟨F0, q0, h1, h2⟩ := h
  obtain ⟨F0', q0', h1', h2'⟩ := h'
  obtain ⟨e1, e2, e3⟩ := h1.det h1'
  rcases h2 with ⟨a1, a2, a3⟩ | ⟨a1, a2, a3⟩
  · rcases h2' with ⟨b1, b2, b3⟩ | ⟨b1, b2, b3⟩
    · exact ⟨by omega, fun w => e2 (by omega), fun w => by rw [a3 w, b3 (by omega), e3]⟩
    · omega
  · rcases h2' with ⟨b1, b2, b3⟩ | ⟨b1, b2, b3⟩
    · omega
    · exact ⟨by omega, fun w => by omega, fun _ => by rw [a3, b3, e3]⟩
theorem xTXg.cg {f f' : Int → Int} {n F m q : Int} {T : List xL3} (h : ∀ i, 0 ≤ i → i < n → f i = f' i) (w : xTXg f n F m q T) : xTXg f' n F m q T := by
  unfold xTXg at w ⊢
  rw [← xtk.cg h, ← xtl.cg h]
  exact w
theorem xTc9.add {kd nb fi be st kd' nb' fi' be' st' : Int → Int} {ln ns n1 : Int} {T : List xL3} {x : xL3} (h : xTc9 kd nb fi be st ln T) (h16 : ln < 16) (hx : xln9 x) (k1 : kd' ln = x.1) (k2 : ∀ i : Int, 0 ≤ i → i ≠ ln → kd' i = kd i) (m1 : nb' ln = x.2.1) (m2 : ∀ i : Int, 0 ≤ i → i ≠ ln → nb' i = nb i) (f1 : fi' ln = ns) (f2 : ∀ i : Int, 0 ≤ i → i ≠ ln → fi' i = fi i) (b1 : be' ln = n1) (b2 : ∀ i : Int, 0 ≤ i → i ≠ ln → be' i = be i) (hb : ∀ i : Int, 0 ≤ i → i < ln → be i ≤ ns) (hs : xStq st' st ns n1 x.2.2) (h0 : 0 ≤ ns) (h1 : n1 ≤ 100) : xTc9 kd' nb' fi' be' st' (ln + 1) (T ++ [x]) := by
  obtain ⟨e1, e2, e3⟩ := h
  have gl : ∀ i : Nat, i < T.length → xgl9 (T ++ [x]) i = xgl9 T i := fun i hi => by
    unfold xgl9
    rw [List.getD_eq_getElem?_getD, List.getD_eq_getElem?_getD, List.getElem?_append_left hi]
  have gx : xgl9 (T ++ [x]) T.length = x := by
    unfold xgl9
    rw [List.getD_eq_getElem?_getD, List.getElem?_append_right (Nat.le_refl _), Nat.sub_self]
    rfl
  refine ⟨by rw [List.length_append, e1]; rfl, by omega, fun i q1 q2 => ?_⟩
  by_cases c : i = ln
  · have ei : i.toNat = T.length := by omega
    rw [ei, gx, c]
    refine ⟨k1, m1, ⟨by rw [f1]; exact h0, by rw [b1, f1]; exact hs.1, by rw [b1]; exact h1, fun j j1 j2 => ?_⟩, hx⟩
    rw [f1]
    exact hs.2.1 j j1 j2
  · have q3 : i < ln := by omega
    obtain ⟨a1, a2, a3, a4⟩ := e3 i q1 q3
    rw [gl i.toNat (by omega), k2 i q1 c, m2 i q1 c]
    refine ⟨a1, a2, ?_, a4⟩
    obtain ⟨l1, l2, l3, l4⟩ := a3
    unfold xLr
    rw [f2 i q1 c, b2 i q1 c]
    refine ⟨l1, l2, l3, fun j j1 j2 => ?_⟩
    rw [hs.2.2 (fi i + j) (by omega) (by have := hb i q1 q3; omega)]
    exact l4 j j1 j2
