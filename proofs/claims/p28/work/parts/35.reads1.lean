
def xfq9 (k a : Int) : Int × Int × Int × List (Int × Int × Int) := (k, a, 0, [])
def xP (tk : Int → Int) : Nat → Int → Int → Int → Int → List (Int × Int × Int) → Option (Int × Int × Int × List (Int × Int × Int))
  | 0, _, _, _, _, _ => none
  | k + 1, m, d, a, o, L =>
    if m = 0 then
      (if ¬ (10 ≤ tk a ∧ tk a ≤ 21) ∧ tk a ≠ 7 ∧ tk a ≠ 25 then some (xfq9 1 a)
      else if 50 ≤ o ∨ 10 < d then some (xfq9 4 a)
      else if 10 ≤ tk a ∧ tk a ≤ 21 then
        (if tk a < 13 then some (0, a + 1, o + 1, L ++ [(tk a - 10, 2, 0)])
        else if ¬ (27 ≤ tk (a + 1) ∧ tk (a + 1) ≤ 29) then some (xfq9 1 (a + 1))
        else if tk (a + 2) < 100 then some (xfq9 1 (a + 2))
        else some (0, a + 3, o + 1, L ++ [(tk a - 10, tk (a + 1) - 27, tk (a + 2) - 100)]))
      else if tk a = 25 then (xP tk k 2 (d + 1) (a + 1) (o + 1) L).bind (fun r => if r.1 ≠ 0 then some r else if tk r.2.1 = 26 then some (0, r.2.1 + 1, r.2.2.1, r.2.2.2) else some (xfq9 1 r.2.1))
      else (xP tk k 0 (d + 1) (a + 1) (o + 1) L).bind (fun r => if r.1 ≠ 0 then some r else some (0, r.2.1, r.2.2.1, r.2.2.2 ++ [(12, 0, 0)])))
    else if m = 1 then (xP tk k 0 d a o L).bind (fun r => if r.1 ≠ 0 then some r else xP tk k 3 d r.2.1 r.2.2.1 r.2.2.2)
    else if m = 3 then
      (if tk a = 8 then (xP tk k 0 d (a + 1) o L).bind (fun r => if r.1 ≠ 0 then some r else xP tk k 3 d r.2.1 r.2.2.1 (r.2.2.2 ++ [(13, 0, 0)])) else some (0, a, o, L))
    else if m = 2 then (xP tk k 1 d a o L).bind (fun r => if r.1 ≠ 0 then some r else xP tk k 4 d r.2.1 r.2.2.1 r.2.2.2)
    else
      (if tk a = 9 then (xP tk k 1 d (a + 1) o L).bind (fun r => if r.1 ≠ 0 then some r else xP tk k 4 d r.2.1 r.2.2.1 (r.2.2.2 ++ [(14, 0, 0)])) else some (0, a, o, L))
theorem xP.mono {tk : Int → Int} : ∀ (k : Nat) (m d a o : Int) (L : List (Int × Int × Int)) (r : Int × Int × Int × List (Int × Int × Int)), xP tk k m d a o L = some r → xP tk (k + 1) m d a o L = some r := by
  intro k
  induction k with
  | zero => intro m d a o L r h; cases h
  | succ k ih =>
    have bd : ∀ {m d a o : Int} {L : List (Int × Int × Int)} {f f' : (Int × Int × Int × List (Int × Int × Int)) → Option (Int × Int × Int × List (Int × Int × Int))} {r}, (∀ q x, f q = some x → f' q = some x) → (xP tk k m d a o L).bind f = some r → (xP tk (k + 1) m d a o L).bind f' = some r := by
      intro m d a o L f f' r hf h
      cases hq : xP tk k m d a o L with
      | none => rw [hq] at h; cases h
      | some q => rw [hq] at h; rw [ih _ _ _ _ _ _ hq]; exact hf q r h
    intro m d a o L r h
    unfold xP at h ⊢
    by_cases m0 : m = 0
    · rw [if_pos m0] at h ⊢
      by_cases c1 : ¬ (10 ≤ tk a ∧ tk a ≤ 21) ∧ tk a ≠ 7 ∧ tk a ≠ 25
      · rw [if_pos c1] at h ⊢; exact h
      · rw [if_neg c1] at h ⊢
        by_cases c2 : 50 ≤ o ∨ 10 < d
        · rw [if_pos c2] at h ⊢; exact h
        · rw [if_neg c2] at h ⊢
          by_cases c3 : 10 ≤ tk a ∧ tk a ≤ 21
          · rw [if_pos c3] at h ⊢; exact h
          · rw [if_neg c3] at h ⊢
            by_cases c4 : tk a = 25
            · rw [if_pos c4] at h ⊢; exact bd (fun q x e => e) h
            · rw [if_neg c4] at h ⊢; exact bd (fun q x e => e) h
    · rw [if_neg m0] at h ⊢
      by_cases m1 : m = 1
      · rw [if_pos m1] at h ⊢
        refine bd (fun q x e => ?_) h
        by_cases c : q.1 ≠ 0
        · rw [if_pos c] at e ⊢; exact e
        · rw [if_neg c] at e ⊢; exact ih _ _ _ _ _ _ e
      · rw [if_neg m1] at h ⊢
        by_cases m3 : m = 3
        · rw [if_pos m3] at h ⊢
          by_cases c8 : tk a = 8
          · rw [if_pos c8] at h ⊢
            refine bd (fun q x e => ?_) h
            by_cases c : q.1 ≠ 0
            · rw [if_pos c] at e ⊢; exact e
            · rw [if_neg c] at e ⊢; exact ih _ _ _ _ _ _ e
          · rw [if_neg c8] at h ⊢; exact h
        · rw [if_neg m3] at h ⊢
          by_cases m2 : m = 2
          · rw [if_pos m2] at h ⊢
            refine bd (fun q x e => ?_) h
            by_cases c : q.1 ≠ 0
            · rw [if_pos c] at e ⊢; exact e
            · rw [if_neg c] at e ⊢; exact ih _ _ _ _ _ _ e
          · rw [if_neg m2] at h ⊢
            by_cases c9 : tk a = 9
            · rw [if_pos c9] at h ⊢
              refine bd (fun q x e => ?_) h
              by_cases c : q.1 ≠ 0
              · rw [if_pos c] at e ⊢; exact e
              · rw [if_neg c] at e ⊢; exact ih _ _ _ _ _ _ e
            · rw [if_neg c9] at h ⊢; exact h
def xQ (tk : Int → Int) (m d a o : Int) (L : List (Int × Int × Int)) (r : Int × Int × Int × List (Int × Int × Int)) : Prop := ∃ k, xP tk k m d a o L = some r
theorem xP.le {tk : Int → Int} {m d a o : Int} {L : List (Int × Int × Int)} {r : Int × Int × Int × List (Int × Int × Int)} {k : Nat} (h : xP tk k m d a o L = some r) (j : Nat) : xP tk (k + j) m d a o L = some r := by
  induction j with
  | zero => exact h
  | succ j ih => exact xP.mono _ _ _ _ _ _ _ ih
theorem xQ.det {tk : Int → Int} {m d a o : Int} {L : List (Int × Int × Int)} {r r' : Int × Int × Int × List (Int × Int × Int)} (h : xQ tk m d a o L r) (h' : xQ tk m d a o L r') : r = r' := by
  obtain ⟨k, h⟩ := h
  obtain ⟨k', h'⟩ := h'
  have a1 := xP.le h k'
  have a2 := xP.le h' k
  rw [Nat.add_comm k' k, a1] at a2
  exact Option.some.inj a2
section XQI
variable {tk : Int → Int} {d a o : Int} {L : List (Int × Int × Int)} {r r1 : Int × Int × Int × List (Int × Int × Int)}
theorem xQ.f1 (h : ¬ (10 ≤ tk a ∧ tk a ≤ 21) ∧ tk a ≠ 7 ∧ tk a ≠ 25) : xQ tk 0 d a o L (xfq9 1 a) := ⟨1, by
  unfold xP
  rw [if_pos rfl, if_pos h]⟩
theorem xQ.f4 (h : ¬ (¬ (10 ≤ tk a ∧ tk a ≤ 21) ∧ tk a ≠ 7 ∧ tk a ≠ 25)) (h2 : 50 ≤ o ∨ 10 < d) : xQ tk 0 d a o L (xfq9 4 a) := ⟨1, by
  unfold xP
  rw [if_pos rfl, if_neg h, if_pos h2]⟩
theorem xQ.flag (h : 10 ≤ tk a ∧ tk a ≤ 12) (h2 : ¬ (50 ≤ o ∨ 10 < d)) : xQ tk 0 d a o L (0, a + 1, o + 1, L ++ [(tk a - 10, 2, 0)]) := ⟨1, by
  unfold xP
  rw [if_pos rfl, if_neg (by omega), if_neg h2, if_pos (by omega), if_pos (by omega)]⟩
theorem xQ.fs (h : 13 ≤ tk a ∧ tk a ≤ 21) (h2 : ¬ (50 ≤ o ∨ 10 < d)) (h3 : ¬ (27 ≤ tk (a + 1) ∧ tk (a + 1) ≤ 29)) : xQ tk 0 d a o L (xfq9 1 (a + 1)) := ⟨1, by
  unfold xP
  rw [if_pos rfl, if_neg (by omega), if_neg h2, if_pos (by omega), if_neg (by omega), if_pos h3]⟩
theorem xQ.fn (h : 13 ≤ tk a ∧ tk a ≤ 21) (h2 : ¬ (50 ≤ o ∨ 10 < d)) (h3 : 27 ≤ tk (a + 1) ∧ tk (a + 1) ≤ 29) (h4 : tk (a + 2) < 100) : xQ tk 0 d a o L (xfq9 1 (a + 2)) := ⟨1, by
  unfold xP
  rw [if_pos rfl, if_neg (by omega), if_neg h2, if_pos (by omega), if_neg (by omega), if_neg (by omega), if_pos h4]⟩
theorem xQ.cmp (h : 13 ≤ tk a ∧ tk a ≤ 21) (h2 : ¬ (50 ≤ o ∨ 10 < d)) (h3 : 27 ≤ tk (a + 1) ∧ tk (a + 1) ≤ 29) (h4 : 100 ≤ tk (a + 2)) : xQ tk 0 d a o L (0, a + 3, o + 1, L ++ [(tk a - 10, tk (a + 1) - 27, tk (a + 2) - 100)]) := ⟨1, by
  unfold xP
  rw [if_pos rfl, if_neg (by omega), if_neg h2, if_pos (by omega), if_neg (by omega), if_neg (by omega), if_neg (by omega)]⟩
def xPar (tk : Int → Int) (r : Int × Int × Int × List (Int × Int × Int)) : Int × Int × Int × List (Int × Int × Int) := if r.1 ≠ 0 then r else if tk r.2.1 = 26 then (0, r.2.1 + 1, r.2.2.1, r.2.2.2) else xfq9 1 r.2.1
def xEm9 (x : Int × Int × Int) (r : Int × Int × Int × List (Int × Int × Int)) : Int × Int × Int × List (Int × Int × Int) := if r.1 ≠ 0 then r else (0, r.2.1, r.2.2.1, r.2.2.2 ++ [x])
theorem xP.par {k : Nat} (h : tk a = 25) (h2 : ¬ (50 ≤ o ∨ 10 < d)) : xP tk (k + 1) 0 d a o L = (xP tk k 2 (d + 1) (a + 1) (o + 1) L).map (xPar tk) := by
  show (if (0 : Int) = 0 then _ else _) = _
  rw [if_pos rfl, if_neg (by omega), if_neg h2, if_neg (by omega), if_pos h]
  cases xP tk k 2 (d + 1) (a + 1) (o + 1) L with
  | none => rfl
  | some q =>
    show (if q.1 ≠ 0 then some q else _) = some (xPar tk q)
    unfold xPar
    by_cases c : q.1 ≠ 0
    · rw [if_pos c, if_pos c]
    · rw [if_neg c, if_neg c]
      by_cases c2 : tk q.2.1 = 26
      · rw [if_pos c2, if_pos c2]
      · rw [if_neg c2, if_neg c2]
theorem xP.nt {k : Nat} (h : tk a = 7) (h2 : ¬ (50 ≤ o ∨ 10 < d)) : xP tk (k + 1) 0 d a o L = (xP tk k 0 (d + 1) (a + 1) (o + 1) L).map (xEm9 (12, 0, 0)) := by
  show (if (0 : Int) = 0 then _ else _) = _
  rw [if_pos rfl, if_neg (by omega), if_neg h2, if_neg (by omega), if_neg (by omega)]
  cases xP tk k 0 (d + 1) (a + 1) (o + 1) L with
  | none => rfl
  | some q =>
    show (if q.1 ≠ 0 then some q else _) = some (xEm9 (12, 0, 0) q)
    unfold xEm9
    by_cases c : q.1 ≠ 0
    · rw [if_pos c, if_pos c]
    · rw [if_neg c, if_neg c]
theorem xQ.par (h : tk a = 25) (h2 : ¬ (50 ≤ o ∨ 10 < d)) (h3 : xQ tk 2 (d + 1) (a + 1) (o + 1) L r1) : xQ tk 0 d a o L (xPar tk r1) := by
  obtain ⟨k, h3⟩ := h3
  exact ⟨k + 1, by rw [xP.par h h2, h3]; rfl⟩
theorem xQ.nt (h : tk a = 7) (h2 : ¬ (50 ≤ o ∨ 10 < d)) (h3 : xQ tk 0 (d + 1) (a + 1) (o + 1) L r1) : xQ tk 0 d a o L (xEm9 (12, 0, 0) r1) := by
  obtain ⟨k, h3⟩ := h3
  exact ⟨k + 1, by rw [xP.nt h h2, h3]; rfl⟩
theorem xQ.all (h1 : xQ tk 0 d a o L r1) (h2 : if r1.1 ≠ 0 then r = r1 else xQ tk 3 d r1.2.1 r1.2.2.1 r1.2.2.2 r) : xQ tk 1 d a o L r := by
  obtain ⟨k, h1⟩ := h1
  by_cases c : r1.1 ≠ 0
  · rw [if_pos c] at h2
    refine ⟨k + 1, ?_⟩
    show (if (1 : Int) = 0 then _ else if (1 : Int) = 1 then _ else _) = _
    rw [if_neg (by decide), if_pos rfl, h1]
    show (if r1.1 ≠ 0 then some r1 else _) = _
    rw [if_pos c, h2]
  · rw [if_neg c] at h2
    obtain ⟨k', h2⟩ := h2
    refine ⟨k + k' + 1, ?_⟩
    show (if (1 : Int) = 0 then _ else if (1 : Int) = 1 then _ else _) = _
    rw [if_neg (by decide), if_pos rfl, xP.le h1 k']
    show (if r1.1 ≠ 0 then some r1 else _) = _
    rw [if_neg c, Nat.add_comm k k']
    exact xP.le h2 k
theorem xQ.cond (h1 : xQ tk 1 d a o L r1) (h2 : if r1.1 ≠ 0 then r = r1 else xQ tk 4 d r1.2.1 r1.2.2.1 r1.2.2.2 r) : xQ tk 2 d a o L r := by
  obtain ⟨k, h1⟩ := h1
  by_cases c : r1.1 ≠ 0
  · rw [if_pos c] at h2
    refine ⟨k + 1, ?_⟩
    show (if (2 : Int) = 0 then _ else if (2 : Int) = 1 then _ else if (2 : Int) = 3 then _ else if (2 : Int) = 2 then _ else _) = _
    rw [if_neg (by decide), if_neg (by decide), if_neg (by decide), if_pos rfl, h1]
    show (if r1.1 ≠ 0 then some r1 else _) = _
    rw [if_pos c, h2]
  · rw [if_neg c] at h2
    obtain ⟨k', h2⟩ := h2
    refine ⟨k + k' + 1, ?_⟩
    show (if (2 : Int) = 0 then _ else if (2 : Int) = 1 then _ else if (2 : Int) = 3 then _ else if (2 : Int) = 2 then _ else _) = _
    rw [if_neg (by decide), if_neg (by decide), if_neg (by decide), if_pos rfl, xP.le h1 k']
    show (if r1.1 ≠ 0 then some r1 else _) = _
    rw [if_neg c, Nat.add_comm k k']
    exact xP.le h2 k
theorem xQ.a0 (h : tk a ≠ 8) : xQ tk 3 d a o L (0, a, o, L) := ⟨1, by
  show (if (3 : Int) = 0 then _ else if (3 : Int) = 1 then _ else if (3 : Int) = 3 then _ else _) = _
  rw [if_neg (by decide), if_neg (by decide), if_pos rfl, if_neg h]⟩
theorem xQ.c0 (h : tk a ≠ 9) : xQ tk 4 d a o L (0, a, o, L) := ⟨1, by
  show (if (4 : Int) = 0 then _ else if (4 : Int) = 1 then _ else if (4 : Int) = 3 then _ else if (4 : Int) = 2 then _ else _) = _
  rw [if_neg (by decide), if_neg (by decide), if_neg (by decide), if_neg (by decide), if_neg h]⟩
theorem xQ.a1 (h : tk a = 8) (h1 : xQ tk 0 d (a + 1) o L r1) (h2 : if r1.1 ≠ 0 then r = r1 else xQ tk 3 d r1.2.1 r1.2.2.1 (r1.2.2.2 ++ [(13, 0, 0)]) r) : xQ tk 3 d a o L r := by
  obtain ⟨k, h1⟩ := h1
  by_cases c : r1.1 ≠ 0
  · rw [if_pos c] at h2
    refine ⟨k + 1, ?_⟩
    show (if (3 : Int) = 0 then _ else if (3 : Int) = 1 then _ else if (3 : Int) = 3 then _ else _) = _
    rw [if_neg (by decide), if_neg (by decide), if_pos rfl, if_pos h, h1]
    show (if r1.1 ≠ 0 then some r1 else _) = _
    rw [if_pos c, h2]
  · rw [if_neg c] at h2
    obtain ⟨k', h2⟩ := h2
    refine ⟨k + k' + 1, ?_⟩
    show (if (3 : Int) = 0 then _ else if (3 : Int) = 1 then _ else if (3 : Int) = 3 then _ else _) = _
    rw [if_neg (by decide), if_neg (by decide), if_pos rfl, if_pos h, xP.le h1 k']
    show (if r1.1 ≠ 0 then some r1 else _) = _
    rw [if_neg c, Nat.add_comm k k']
    exact xP.le h2 k
theorem xQ.c1 (h : tk a = 9) (h1 : xQ tk 1 d (a + 1) o L r1) (h2 : if r1.1 ≠ 0 then r = r1 else xQ tk 4 d r1.2.1 r1.2.2.1 (r1.2.2.2 ++ [(14, 0, 0)]) r) : xQ tk 4 d a o L r := by
  obtain ⟨k, h1⟩ := h1
  by_cases c : r1.1 ≠ 0
  · rw [if_pos c] at h2
    refine ⟨k + 1, ?_⟩
    show (if (4 : Int) = 0 then _ else if (4 : Int) = 1 then _ else if (4 : Int) = 3 then _ else if (4 : Int) = 2 then _ else _) = _
    rw [if_neg (by decide), if_neg (by decide), if_neg (by decide), if_neg (by decide), if_pos h, h1]
    show (if r1.1 ≠ 0 then some r1 else _) = _
    rw [if_pos c, h2]
  · rw [if_neg c] at h2
    obtain ⟨k', h2⟩ := h2
    refine ⟨k + k' + 1, ?_⟩
    show (if (4 : Int) = 0 then _ else if (4 : Int) = 1 then _ else if (4 : Int) = 3 then _ else if (4 : Int) = 2 then _ else _) = _
    rw [if_neg (by decide), if_neg (by decide), if_neg (by decide), if_neg (by decide), if_pos h, xP.le h1 k']
    show (if r1.1 ≠ 0 then some r1 else _) = _
    rw [if_neg c, Nat.add_comm k k']
    exact xP.le h2 k
end XQI
abbrev xRr9 := Int × Int × Int × List (Int × Int × Int)
section XPE
variable {tk : Int → Int} {k : Nat} {d a o : Int} {L : List (Int × Int × Int)} {r r1 : xRr9}
theorem xP.e1 : xP tk (k + 1) 1 d a o L = (xP tk k 0 d a o L).bind (fun r => if r.1 ≠ 0 then some r else xP tk k 3 d r.2.1 r.2.2.1 r.2.2.2) := by
  show (if (1 : Int) = 0 then _ else if (1 : Int) = 1 then _ else _) = _
  rw [if_neg (by decide), if_pos rfl]
theorem xP.e2 : xP tk (k + 1) 2 d a o L = (xP tk k 1 d a o L).bind (fun r => if r.1 ≠ 0 then some r else xP tk k 4 d r.2.1 r.2.2.1 r.2.2.2) := by
  show (if (2 : Int) = 0 then _ else if (2 : Int) = 1 then _ else if (2 : Int) = 3 then _ else if (2 : Int) = 2 then _ else _) = _
  rw [if_neg (by decide), if_neg (by decide), if_neg (by decide), if_pos rfl]
theorem xP.e3 : xP tk (k + 1) 3 d a o L = if tk a = 8 then (xP tk k 0 d (a + 1) o L).bind (fun r => if r.1 ≠ 0 then some r else xP tk k 3 d r.2.1 r.2.2.1 (r.2.2.2 ++ [(13, 0, 0)])) else some (0, a, o, L) := by
  show (if (3 : Int) = 0 then _ else if (3 : Int) = 1 then _ else if (3 : Int) = 3 then _ else _) = _
  rw [if_neg (by decide), if_neg (by decide), if_pos rfl]
theorem xP.e4 : xP tk (k + 1) 4 d a o L = if tk a = 9 then (xP tk k 1 d (a + 1) o L).bind (fun r => if r.1 ≠ 0 then some r else xP tk k 4 d r.2.1 r.2.2.1 (r.2.2.2 ++ [(14, 0, 0)])) else some (0, a, o, L) := by
  show (if (4 : Int) = 0 then _ else if (4 : Int) = 1 then _ else if (4 : Int) = 3 then _ else if (4 : Int) = 2 then _ else _) = _
  rw [if_neg (by decide), if_neg (by decide), if_neg (by decide), if_neg (by decide)]
def xT3 (tk : Int → Int) (d : Int) (r1 r : xRr9) : Prop := if r1.1 ≠ 0 then r = r1 else xQ tk 3 d r1.2.1 r1.2.2.1 r1.2.2.2 r
def xT4 (tk : Int → Int) (d : Int) (r1 r : xRr9) : Prop := if r1.1 ≠ 0 then r = r1 else xQ tk 4 d r1.2.1 r1.2.2.1 r1.2.2.2 r
theorem xbnd {α β : Type} {x : Option α} {f : α → Option β} {r : β} (h : x.bind f = some r) : ∃ q, x = some q ∧ f q = some r := by
  cases x with
  | none => cases h
  | some q => exact ⟨q, rfl, h⟩
theorem xQ.v1 (h : xQ tk 1 d a o L r) : ∃ r1, xQ tk 0 d a o L r1 ∧ xT3 tk d r1 r := by
  obtain ⟨k, h⟩ := h
  cases k with
  | zero => cases h
  | succ k =>
    rw [xP.e1] at h
    obtain ⟨q, h1, h2⟩ := xbnd h
    refine ⟨q, ⟨k, h1⟩, ?_⟩
    unfold xT3
    by_cases c : q.1 ≠ 0
    · rw [if_pos c] at h2 ⊢; exact (Option.some.inj h2).symm
    · rw [if_neg c] at h2 ⊢; exact ⟨k, h2⟩
theorem xQ.v2 (h : xQ tk 2 d a o L r) : ∃ r1, xQ tk 1 d a o L r1 ∧ xT4 tk d r1 r := by
  obtain ⟨k, h⟩ := h
  cases k with
  | zero => cases h
  | succ k =>
    rw [xP.e2] at h
    obtain ⟨q, h1, h2⟩ := xbnd h
    refine ⟨q, ⟨k, h1⟩, ?_⟩
    unfold xT4
    by_cases c : q.1 ≠ 0
    · rw [if_pos c] at h2 ⊢; exact (Option.some.inj h2).symm
    · rw [if_neg c] at h2 ⊢; exact ⟨k, h2⟩
theorem xQ.v3 (h : xQ tk 3 d a o L r) (e : tk a = 8) : ∃ r1, xQ tk 0 d (a + 1) o L r1 ∧ xT3 tk d (xEm9 (13, 0, 0) r1) r := by
  obtain ⟨k, h⟩ := h
  cases k with
  | zero => cases h
  | succ k =>
    rw [xP.e3, if_pos e] at h
    obtain ⟨q, h1, h2⟩ := xbnd h
    refine ⟨q, ⟨k, h1⟩, ?_⟩
    unfold xT3 xEm9
    by_cases c : q.1 ≠ 0
    · rw [if_pos c] at h2 ⊢; rw [if_pos c]; exact (Option.some.inj h2).symm
    · rw [if_neg c] at h2 ⊢; exact ⟨k, h2⟩
theorem xQ.v4 (h : xQ tk 4 d a o L r) (e : tk a = 9) : ∃ r1, xQ tk 1 d (a + 1) o L r1 ∧ xT4 tk d (xEm9 (14, 0, 0) r1) r := by
  obtain ⟨k, h⟩ := h
  cases k with
  | zero => cases h
  | succ k =>
    rw [xP.e4, if_pos e] at h
    obtain ⟨q, h1, h2⟩ := xbnd h
    refine ⟨q, ⟨k, h1⟩, ?_⟩
    unfold xT4 xEm9
    by_cases c : q.1 ≠ 0
    · rw [if_pos c] at h2 ⊢; rw [if_pos c]; exact (Option.some.inj h2).symm
    · rw [if_neg c] at h2 ⊢; exact ⟨k, h2⟩
theorem xQ.vn (h : xQ tk 0 d a o L r) (e : tk a = 7) (h2 : ¬ (50 ≤ o ∨ 10 < d)) : ∃ r1, xQ tk 0 (d + 1) (a + 1) (o + 1) L r1 ∧ r = xEm9 (12, 0, 0) r1 := by
  obtain ⟨k, h⟩ := h
  cases k with
  | zero => cases h
  | succ k =>
    rw [xP.nt e h2] at h
    cases hq : xP tk k 0 (d + 1) (a + 1) (o + 1) L with
    | none => rw [hq] at h; cases h
    | some q => rw [hq] at h; exact ⟨q, ⟨k, hq⟩, (Option.some.inj h).symm⟩
theorem xQ.vp (h : xQ tk 0 d a o L r) (e : tk a = 25) (h2 : ¬ (50 ≤ o ∨ 10 < d)) : ∃ r1, xQ tk 2 (d + 1) (a + 1) (o + 1) L r1 ∧ r = xPar tk r1 := by
  obtain ⟨k, h⟩ := h
  cases k with
  | zero => cases h
  | succ k =>
    rw [xP.par e h2] at h
    cases hq : xP tk k 2 (d + 1) (a + 1) (o + 1) L with
    | none => rw [hq] at h; cases h
    | some q => rw [hq] at h; exact ⟨q, ⟨k, hq⟩, (Option.some.inj h).symm⟩
end XPE
def xOk (m a o : Int) (L : List (Int × Int × Int)) (r : xRr9) : Prop := r.1 = 0 → a ≤ r.2.1 ∧ o ≤ r.2.2.1 ∧ (m ≤ 2 → a + 1 ≤ r.2.1 ∧ o + 1 ≤ r.2.2.1 ∧ r.2.2.1 ≤ 50 ∧ (r.2.2.2.length : Int) - 2 * r.2.2.1 ≤ (L.length : Int) - 2 * o - 1) ∧ (3 ≤ m → (o ≤ 50 → r.2.2.1 ≤ 50) ∧ (r.2.2.2.length : Int) - 2 * r.2.2.1 ≤ (L.length : Int) - 2 * o)
theorem xlen1 {L : List (Int × Int × Int)} {x : Int × Int × Int} : ((L ++ [x]).length : Int) = (L.length : Int) + 1 := by
  rw [List.length_append]
  show ((L.length + 1 : Nat) : Int) = _
  omega
theorem xP.ok {tk : Int → Int} : ∀ (k : Nat) (m d a o : Int) (L : List (Int × Int × Int)) (r : xRr9), xP tk k m d a o L = some r → (m = 0 ∨ m = 1 ∨ m = 2 ∨ m = 3 ∨ m = 4) → xOk m a o L r := by
  intro k
  induction k with
  | zero => intro m d a o L r h; cases h
  | succ k ih =>
    intro m d a o L r h hm
    rcases hm with e | e | e | e | e <;> subst e
    · intro r0
      by_cases c1 : ¬ (10 ≤ tk a ∧ tk a ≤ 21) ∧ tk a ≠ 7 ∧ tk a ≠ 25
      · have := xQ.det ⟨_, h⟩ (xQ.f1 (d := d) (o := o) (L := L) c1)
        rw [this] at r0
        cases r0
      · by_cases c2 : 50 ≤ o ∨ 10 < d
        · have := xQ.det ⟨_, h⟩ (xQ.f4 (L := L) c1 c2)
          rw [this] at r0
          cases r0
        · by_cases c3 : tk a = 25
          · rw [xP.par c3 c2] at h
            cases hq : xP tk k 2 (d + 1) (a + 1) (o + 1) L with
            | none => rw [hq] at h; cases h
            | some q =>
              rw [hq] at h
              have e : xPar tk q = r := Option.some.inj h
              have w := ih _ _ _ _ _ _ hq (by omega)
              unfold xPar at e
              by_cases c : q.1 ≠ 0
              · rw [if_pos c] at e
                rw [e] at c
                exact absurd r0 c
              · rw [if_neg c] at e
                have w := w (by omega)
                have w2 := w.2.2.1 (by omega)
                by_cases cc : tk q.2.1 = 26
                · rw [if_pos cc] at e
                  rw [← e]
                  exact ⟨by show a ≤ q.2.1 + 1; omega, by show o ≤ q.2.2.1; omega, fun _ => ⟨by show a + 1 ≤ q.2.1 + 1; omega, by show o + 1 ≤ q.2.2.1; omega, by show q.2.2.1 ≤ 50; omega, by show (q.2.2.2.length : Int) - 2 * q.2.2.1 ≤ _; omega⟩, fun h3 => by omega⟩
                · rw [if_neg cc] at e
                  rw [← e] at r0
                  cases r0
          · by_cases c4 : tk a = 7
            · rw [xP.nt c4 c2] at h
              cases hq : xP tk k 0 (d + 1) (a + 1) (o + 1) L with
              | none => rw [hq] at h; cases h
              | some q =>
                rw [hq] at h
                have e : xEm9 (12, 0, 0) q = r := Option.some.inj h
                have w := ih _ _ _ _ _ _ hq (by omega)
                unfold xEm9 at e
                by_cases c : q.1 ≠ 0
                · rw [if_pos c] at e
                  rw [e] at c
                  exact absurd r0 c
                · rw [if_neg c] at e
                  have w := w (by omega)
                  have w2 := w.2.2.1 (by omega)
                  rw [← e]
                  exact ⟨by show a ≤ q.2.1; omega, by show o ≤ q.2.2.1; omega, fun _ => ⟨by show a + 1 ≤ q.2.1; omega, by show o + 1 ≤ q.2.2.1; omega, by show q.2.2.1 ≤ 50; omega, by show ((q.2.2.2 ++ [(12, 0, 0)]).length : Int) - 2 * q.2.2.1 ≤ _; rw [xlen1]; omega⟩, fun h3 => by omega⟩
            · have c5 : 10 ≤ tk a ∧ tk a ≤ 21 := by omega
              by_cases c6 : tk a < 13
              · have := xQ.det ⟨_, h⟩ (xQ.flag (L := L) (by omega) c2)
                rw [this]
                exact ⟨by show a ≤ a + 1; omega, by show o ≤ o + 1; omega, fun _ => ⟨by show a + 1 ≤ a + 1; omega, by show o + 1 ≤ o + 1; omega, by show o + 1 ≤ 50; omega, by show ((L ++ [_]).length : Int) - 2 * (o + 1) ≤ _; rw [xlen1]; omega⟩, fun h3 => by omega⟩
              · by_cases c7 : 27 ≤ tk (a + 1) ∧ tk (a + 1) ≤ 29
                · by_cases c8 : tk (a + 2) < 100
                  · have := xQ.det ⟨_, h⟩ (xQ.fn (L := L) (by omega) c2 c7 c8)
                    rw [this] at r0
                    cases r0
                  · have := xQ.det ⟨_, h⟩ (xQ.cmp (L := L) (by omega) c2 c7 (by omega))
                    rw [this]
                    exact ⟨by show a ≤ a + 3; omega, by show o ≤ o + 1; omega, fun _ => ⟨by show a + 1 ≤ a + 3; omega, by show o + 1 ≤ o + 1; omega, by show o + 1 ≤ 50; omega, by show ((L ++ [_]).length : Int) - 2 * (o + 1) ≤ _; rw [xlen1]; omega⟩, fun h3 => by omega⟩
                · have := xQ.det ⟨_, h⟩ (xQ.fs (L := L) (by omega) c2 c7)
                  rw [this] at r0
                  cases r0
    · intro r0
      rw [xP.e1] at h
      obtain ⟨q, h1, h2⟩ := xbnd h
      have w := ih _ _ _ _ _ _ h1 (by omega)
      by_cases c : q.1 ≠ 0
      · rw [if_pos c] at h2
        rw [Option.some.inj h2] at c
        exact absurd r0 c
      · rw [if_neg c] at h2
        have w := w (by omega)
        have w2 := w.2.2.1 (by omega)
        have u := ih _ _ _ _ _ _ h2 (by omega) r0
        have u2 := u.2.2.2 (by omega)
        have u3 := u2.1 (by omega)
        exact ⟨by omega, by omega, fun _ => ⟨by omega, by omega, by omega, by omega⟩, fun h3 => by omega⟩
    · intro r0
      rw [xP.e2] at h
      obtain ⟨q, h1, h2⟩ := xbnd h
      have w := ih _ _ _ _ _ _ h1 (by omega)
      by_cases c : q.1 ≠ 0
      · rw [if_pos c] at h2
        rw [Option.some.inj h2] at c
        exact absurd r0 c
      · rw [if_neg c] at h2
        have w := w (by omega)
        have w2 := w.2.2.1 (by omega)
        have u := ih _ _ _ _ _ _ h2 (by omega) r0
        have u2 := u.2.2.2 (by omega)
        have u3 := u2.1 (by omega)
        exact ⟨by omega, by omega, fun _ => ⟨by omega, by omega, by omega, by omega⟩, fun h3 => by omega⟩
    · intro r0
      rw [xP.e3] at h
      by_cases c8 : tk a = 8
      · rw [if_pos c8] at h
        obtain ⟨q, h1, h2⟩ := xbnd h
        have w := ih _ _ _ _ _ _ h1 (by omega)
        by_cases c : q.1 ≠ 0
        · rw [if_pos c] at h2
          rw [Option.some.inj h2] at c
          exact absurd r0 c
        · rw [if_neg c] at h2
          have w := w (by omega)
          have w2 := w.2.2.1 (by omega)
          have u := ih _ _ _ _ _ _ h2 (by omega) r0
          have u2 := u.2.2.2 (by omega)
          have u3 := u2.1 (by omega)
          rw [xlen1] at u2
          exact ⟨by omega, by omega, fun h3 => by omega, fun _ => ⟨fun _ => by omega, by omega⟩⟩
      · rw [if_neg c8] at h
        rw [← Option.some.inj h]
        exact ⟨Int.le_refl _, Int.le_refl _, fun h3 => by omega, fun _ => ⟨fun q => q, Int.le_refl _⟩⟩
    · intro r0
      rw [xP.e4] at h
      by_cases c8 : tk a = 9
      · rw [if_pos c8] at h
        obtain ⟨q, h1, h2⟩ := xbnd h
        have w := ih _ _ _ _ _ _ h1 (by omega)
        by_cases c : q.1 ≠ 0
        · rw [if_pos c] at h2
          rw [Option.some.inj h2] at c
          exact absurd r0 c
        · rw [if_neg c] at h2
          have w := w (by omega)
          have w2 := w.2.2.1 (by omega)
          have u := ih _ _ _ _ _ _ h2 (by omega) r0
          have u2 := u.2.2.2 (by omega)
          have u3 := u2.1 (by omega)
          rw [xlen1] at u2
          exact ⟨by omega, by omega, fun h3 => by omega, fun _ => ⟨fun _ => by omega, by omega⟩⟩
      · rw [if_neg c8] at h
        rw [← Option.some.inj h]
        exact ⟨Int.le_refl _, Int.le_refl _, fun h3 => by omega, fun _ => ⟨fun q => q, Int.le_refl _⟩⟩
theorem xQ.ok {tk : Int → Int} {m d a o : Int} {L : List (Int × Int × Int)} {r : xRr9} (h : xQ tk m d a o L r) (hm : m = 0 ∨ m = 1 ∨ m = 2 ∨ m = 3 ∨ m = 4) : xOk m a o L r := by
  obtain ⟨k, h⟩ := h
  exact xP.ok k m d a o L r h hm
theorem xQ.tA {tk : Int → Int} {o : Int} (h1 : ∀ d a L, ∃ r : xRr9, xQ tk 0 d a o L r) (h2 : ∀ o', o < o' → o' ≤ 50 → ∀ m d a L, (m = 0 ∨ m = 1 ∨ m = 2 ∨ m = 3 ∨ m = 4) → ∃ r : xRr9, xQ tk m d a o' L r) : ∀ m d a L, (m = 0 ∨ m = 1 ∨ m = 2 ∨ m = 3 ∨ m = 4) → ∃ r : xRr9, xQ tk m d a o L r := by
  have t3 : ∀ d a L, ∃ r : xRr9, xQ tk 3 d a o L r := fun d a L => by
    by_cases e : tk a = 8
    · obtain ⟨r1, w⟩ := h1 d (a + 1) L
      by_cases c : r1.1 ≠ 0
      · exact ⟨r1, xQ.a1 e w (by rw [if_pos c])⟩
      · have k := (w.ok (Or.inl rfl) (by omega)).2.2.1 (by omega)
        obtain ⟨r, u⟩ := h2 r1.2.2.1 (by omega) (by omega) 3 d r1.2.1 (r1.2.2.2 ++ [(13, 0, 0)]) (by omega)
        exact ⟨r, xQ.a1 e w (by rw [if_neg c]; exact u)⟩
    · exact ⟨_, xQ.a0 e⟩
  have t1 : ∀ d a L, ∃ r : xRr9, xQ tk 1 d a o L r := fun d a L => by
    obtain ⟨r1, w⟩ := h1 d a L
    by_cases c : r1.1 ≠ 0
    · exact ⟨r1, xQ.all w (by rw [if_pos c])⟩
    · have k := (w.ok (Or.inl rfl) (by omega)).2.2.1 (by omega)
      obtain ⟨r, u⟩ := h2 r1.2.2.1 (by omega) (by omega) 3 d r1.2.1 r1.2.2.2 (by omega)
      exact ⟨r, xQ.all w (by rw [if_neg c]; exact u)⟩
  have t4 : ∀ d a L, ∃ r : xRr9, xQ tk 4 d a o L r := fun d a L => by
    by_cases e : tk a = 9
    · obtain ⟨r1, w⟩ := t1 d (a + 1) L
      by_cases c : r1.1 ≠ 0
      · exact ⟨r1, xQ.c1 e w (by rw [if_pos c])⟩
      · have k := (w.ok (by omega) (by omega)).2.2.1 (by omega)
        obtain ⟨r, u⟩ := h2 r1.2.2.1 (by omega) (by omega) 4 d r1.2.1 (r1.2.2.2 ++ [(14, 0, 0)]) (by omega)
        exact ⟨r, xQ.c1 e w (by rw [if_neg c]; exact u)⟩
    · exact ⟨_, xQ.c0 e⟩
  intro m d a L hm
  rcases hm with e | e | e | e | e <;> subst e
  · exact h1 d a L
  · exact t1 d a L
  · obtain ⟨r1, w⟩ := t1 d a L
    by_cases c : r1.1 ≠ 0
    · exact ⟨r1, xQ.cond w (by rw [if_pos c])⟩
    · have k := (w.ok (by omega) (by omega)).2.2.1 (by omega)
      obtain ⟨r, u⟩ := h2 r1.2.2.1 (by omega) (by omega) 4 d r1.2.1 r1.2.2.2 (by omega)
      exact ⟨r, xQ.cond w (by rw [if_neg c]; exact u)⟩
  · exact t3 d a L
  · exact t4 d a L
theorem xQ.tot {tk : Int → Int} : ∀ (n : Nat) (o : Int), 50 - o ≤ n → ∀ m d a L, (m = 0 ∨ m = 1 ∨ m = 2 ∨ m = 3 ∨ m = 4) → ∃ r : xRr9, xQ tk m d a o L r := by
  intro n
  induction n with
  | zero =>
    intro o ho
    refine xQ.tA (fun d a L => ?_) (fun o' q1 q2 => by omega)
    by_cases c1 : ¬ (10 ≤ tk a ∧ tk a ≤ 21) ∧ tk a ≠ 7 ∧ tk a ≠ 25
    · exact ⟨_, xQ.f1 c1⟩
    · exact ⟨_, xQ.f4 c1 (Or.inl (by omega))⟩
  | succ n ih =>
    intro o ho
    refine xQ.tA (fun d a L => ?_) (fun o' q1 q2 => ih o' (by omega))
    by_cases c1 : ¬ (10 ≤ tk a ∧ tk a ≤ 21) ∧ tk a ≠ 7 ∧ tk a ≠ 25
    · exact ⟨_, xQ.f1 c1⟩
    · by_cases c2 : 50 ≤ o ∨ 10 < d
      · exact ⟨_, xQ.f4 c1 c2⟩
      · by_cases c3 : tk a = 25
        · obtain ⟨r, w⟩ := ih (o + 1) (by omega) 2 (d + 1) (a + 1) L (by omega)
          exact ⟨_, xQ.par c3 c2 w⟩
        · by_cases c4 : tk a = 7
          · obtain ⟨r, w⟩ := ih (o + 1) (by omega) 0 (d + 1) (a + 1) L (by omega)
            exact ⟨_, xQ.nt c4 c2 w⟩
          · by_cases c6 : tk a < 13
            · exact ⟨_, xQ.flag (by omega) c2⟩
            · by_cases c7 : 27 ≤ tk (a + 1) ∧ tk (a + 1) ≤ 29
              · by_cases c8 : tk (a + 2) < 100
                · exact ⟨_, xQ.fn (by omega) c2 c7 c8⟩
                · exact ⟨_, xQ.cmp (by omega) c2 c7 (by omega)⟩
              · exact ⟨_, xQ.fs (by omega) c2 c7⟩
def xKm (tk : Int → Int) : List Int → Int → Int → xRr9 → xRr9 → Prop
  | [], m, d, r1, r => if m = 0 then ∃ r2, xT3 tk d r1 r2 ∧ xT4 tk d r2 r else if m = 1 then xT4 tk d r1 r else r = r1
  | x :: p, m, d, r1, r =>
    if m = 0 then
      (if x = 12 then xKm tk p 0 (d - 1) (xEm9 (12, 0, 0) r1) r
      else if x = 13 then ∃ r2, xT3 tk d (xEm9 (13, 0, 0) r1) r2 ∧ xKm tk p 1 d r2 r
      else if x = 14 then ∃ r2, xT3 tk d r1 r2 ∧ ∃ r3, xT4 tk d (xEm9 (14, 0, 0) r2) r3 ∧ xKm tk p 2 d r3 r
      else ∃ r2, xT3 tk d r1 r2 ∧ ∃ r3, xT4 tk d r2 r3 ∧ xKm tk p 0 (d - 1) (xPar tk r3) r)
    else if m = 1 then
      (if x = 14 then ∃ r3, xT4 tk d (xEm9 (14, 0, 0) r1) r3 ∧ xKm tk p 2 d r3 r
      else if x = 15 then ∃ r3, xT4 tk d r1 r3 ∧ xKm tk p 0 (d - 1) (xPar tk r3) r
      else False)
    else if x = 15 then xKm tk p 0 (d - 1) (xPar tk r1) r else False
theorem xz9 {a o : Int} {L : List (Int × Int × Int)} : ¬ ((0, a, o, L) : xRr9).1 ≠ 0 := fun q => q rfl
theorem xn9 {k a : Int} (h : k ≠ 0) : (xfq9 k a).1 ≠ 0 := h
section XKM
variable {tk : Int → Int} {d a o x : Int} {L : List (Int × Int × Int)} {r r1 r2 : xRr9} {p : List Int}
theorem xT3.f (h : r1.1 ≠ 0) (t : xT3 tk d r1 r2) : r2 = r1 := by
  unfold xT3 at t
  rw [if_pos h] at t
  exact t
theorem xT4.f (h : r1.1 ≠ 0) (t : xT4 tk d r1 r2) : r2 = r1 := by
  unfold xT4 at t
  rw [if_pos h] at t
  exact t
theorem xEm9.f {y : Int × Int × Int} (h : r1.1 ≠ 0) : xEm9 y r1 = r1 := if_pos h
theorem xPar.f (h : r1.1 ≠ 0) : xPar tk r1 = r1 := if_pos h
theorem xKm.flt : ∀ (p : List Int) (m d : Int) (r1 r : xRr9), r1.1 ≠ 0 → xKm tk p m d r1 r → r = r1 := by
  intro p
  induction p with
  | nil =>
    intro m d r1 r hf h
    unfold xKm at h
    by_cases m0 : m = 0
    · rw [if_pos m0] at h
      obtain ⟨r2, h1, h2⟩ := h
      have e := h1.f hf
      rw [e] at h2
      exact h2.f hf
    · rw [if_neg m0] at h
      by_cases m1 : m = 1
      · rw [if_pos m1] at h; exact h.f hf
      · rw [if_neg m1] at h; exact h
  | cons x p ih =>
    intro m d r1 r hf h
    unfold xKm at h
    by_cases m0 : m = 0
    · rw [if_pos m0] at h
      by_cases c1 : x = 12
      · rw [if_pos c1, xEm9.f hf] at h; exact ih _ _ _ _ hf h
      · rw [if_neg c1] at h
        by_cases c2 : x = 13
        · rw [if_pos c2, xEm9.f hf] at h
          obtain ⟨r2, h1, h2⟩ := h
          rw [h1.f hf] at h2
          exact ih _ _ _ _ hf h2
        · rw [if_neg c2] at h
          by_cases c3 : x = 14
          · rw [if_pos c3] at h
            obtain ⟨r2, h1, r3, h2, h3⟩ := h
            rw [h1.f hf, xEm9.f hf] at h2
            rw [h2.f hf] at h3
            exact ih _ _ _ _ hf h3
          · rw [if_neg c3] at h
            obtain ⟨r2, h1, r3, h2, h3⟩ := h
            rw [h1.f hf] at h2
            rw [h2.f hf, xPar.f hf] at h3
            exact ih _ _ _ _ hf h3
    · rw [if_neg m0] at h
      by_cases m1 : m = 1
      · rw [if_pos m1] at h
        by_cases c3 : x = 14
        · rw [if_pos c3, xEm9.f hf] at h
          obtain ⟨r3, h2, h3⟩ := h
          rw [h2.f hf] at h3
          exact ih _ _ _ _ hf h3
        · rw [if_neg c3] at h
          by_cases c4 : x = 15
          · rw [if_pos c4] at h
            obtain ⟨r3, h2, h3⟩ := h
            rw [h2.f hf, xPar.f hf] at h3
            exact ih _ _ _ _ hf h3
          · rw [if_neg c4] at h; exact h.elim
      · rw [if_neg m1] at h
        by_cases c4 : x = 15
        · rw [if_pos c4, xPar.f hf] at h; exact ih _ _ _ _ hf h
        · rw [if_neg c4] at h; exact h.elim
theorem xKm.start (h : xQ tk 2 d a o L r) : ∃ r1, xQ tk 0 d a o L r1 ∧ xKm tk [] 0 d r1 r := by
  obtain ⟨rA, h1, h2⟩ := h.v2
  obtain ⟨r1, h3, h4⟩ := h1.v1
  refine ⟨r1, h3, ?_⟩
  unfold xKm
  rw [if_pos rfl]
  exact ⟨rA, h4, h2⟩
theorem xKm.nt (e : tk a = 7) (hd : ¬ (50 ≤ o ∨ 10 < d)) (h1 : xQ tk 0 d a o L r1) (h2 : xKm tk p 0 d r1 r) : ∃ r1', xQ tk 0 (d + 1) (a + 1) (o + 1) L r1' ∧ xKm tk (12 :: p) 0 (d + 1) r1' r := by
  obtain ⟨q, q1, q2⟩ := h1.vn e hd
  refine ⟨q, q1, ?_⟩
  unfold xKm
  rw [if_pos rfl, if_pos rfl, show d + 1 - 1 = d by omega, ← q2]
  exact h2
theorem xKm.par (e : tk a = 25) (hd : ¬ (50 ≤ o ∨ 10 < d)) (h1 : xQ tk 0 d a o L r1) (h2 : xKm tk p 0 d r1 r) : ∃ r1', xQ tk 0 (d + 1) (a + 1) (o + 1) L r1' ∧ xKm tk (15 :: p) 0 (d + 1) r1' r := by
  obtain ⟨q, q1, q2⟩ := h1.vp e hd
  obtain ⟨rA, w1, w2⟩ := q1.v2
  obtain ⟨rO, w3, w4⟩ := w1.v1
  refine ⟨rO, w3, ?_⟩
  unfold xKm
  rw [if_pos rfl, if_neg (by decide), if_neg (by decide), if_neg (by decide)]
  refine ⟨rA, w4, q, w2, ?_⟩
  rw [show d + 1 - 1 = d by omega, ← q2]
  exact h2
theorem xKm.dn (h : xKm tk (12 :: p) 0 d (0, a, o, L) r) : xKm tk p 0 (d - 1) (0, a, o, L ++ [(12, 0, 0)]) r := by
  unfold xKm at h
  rw [if_pos rfl, if_pos rfl] at h
  exact h
theorem xT3.id (e : tk a ≠ 8) (h : xT3 tk d (0, a, o, L) r2) : r2 = (0, a, o, L) := by
  unfold xT3 at h
  rw [if_neg xz9] at h
  exact h.det (xQ.a0 e)
theorem xT4.id (e : tk a ≠ 9) (h : xT4 tk d (0, a, o, L) r2) : r2 = (0, a, o, L) := by
  unfold xT4 at h
  rw [if_neg xz9] at h
  exact h.det (xQ.c0 e)
def xKe (tk : Int → Int) (p : List Int) (d : Int) (r1 r : xRr9) : Prop := xKm tk p 0 d r1 r ∨ xKm tk p 1 d r1 r ∨ xKm tk p 2 d r1 r
def xKf (tk : Int → Int) (p : List Int) (d : Int) (r1 r : xRr9) : Prop := xKm tk p 1 d r1 r ∨ xKm tk p 2 d r1 r
theorem xKe.drop (hx : x = 13 ∨ x = 14) (h : xKe tk (x :: p) d (0, a, o, L) r) (e8 : tk a ≠ 8) (e9 : tk a ≠ 9) : xKf tk p d (0, a, o, L ++ [(x, 0, 0)]) r := by
  have em : ∀ y : Int × Int × Int, xEm9 y ((0, a, o, L) : xRr9) = (0, a, o, L ++ [y]) := fun y => rfl
  rcases hx with e | e <;> subst e
  · rcases h with h | h | h
    · unfold xKm at h
      rw [if_pos rfl, if_neg (by decide), if_pos rfl, em] at h
      obtain ⟨r2, h1, h2⟩ := h
      rw [h1.id e8] at h2
      exact Or.inl h2
    · unfold xKm at h
      rw [if_neg (by decide), if_pos rfl, if_neg (by decide), if_neg (by decide)] at h
      exact h.elim
    · unfold xKm at h
      rw [if_neg (by decide), if_neg (by decide), if_neg (by decide)] at h
      exact h.elim
  · rcases h with h | h | h
    · unfold xKm at h
      rw [if_pos rfl, if_neg (by decide), if_neg (by decide), if_pos rfl] at h
      obtain ⟨r2, h1, r3, h2, h3⟩ := h
      rw [h1.id e8, em] at h2
      rw [h2.id e9] at h3
      exact Or.inr h3
    · unfold xKm at h
      rw [if_neg (by decide), if_pos rfl, if_pos rfl, em] at h
      obtain ⟨r3, h2, h3⟩ := h
      rw [h2.id e9] at h3
      exact Or.inr h3
    · unfold xKm at h
      rw [if_neg (by decide), if_neg (by decide), if_neg (by decide)] at h
      exact h.elim
theorem xKe.nil (h : xKe tk [] d (0, a, o, L) r) (e8 : tk a ≠ 8) (e9 : tk a ≠ 9) : r = (0, a, o, L) := by
  rcases h with h | h | h
  · unfold xKm at h
    rw [if_pos rfl] at h
    obtain ⟨r2, h1, h2⟩ := h
    rw [h1.id e8] at h2
    exact h2.id e9
  · unfold xKm at h
    rw [if_neg (by decide), if_pos rfl] at h
    exact h.id e9
  · unfold xKm at h
    rw [if_neg (by decide), if_neg (by decide)] at h
    exact h
theorem xKe.shut (h : xKe tk (15 :: p) d (0, a, o, L) r) (e8 : tk a ≠ 8) (e9 : tk a ≠ 9) : xKm tk p 0 (d - 1) (xPar tk (0, a, o, L)) r := by
  rcases h with h | h | h
  · unfold xKm at h
    rw [if_pos rfl, if_neg (by decide), if_neg (by decide), if_neg (by decide)] at h
    obtain ⟨r2, h1, r3, h2, h3⟩ := h
    rw [h1.id e8] at h2
    rw [h2.id e9] at h3
    exact h3
  · unfold xKm at h
    rw [if_neg (by decide), if_pos rfl, if_neg (by decide), if_pos rfl] at h
    obtain ⟨r3, h2, h3⟩ := h
    rw [h2.id e9] at h3
    exact h3
  · unfold xKm at h
    rw [if_neg (by decide), if_neg (by decide), if_pos rfl] at h
    exact h
theorem xKm.shut (h : xKm tk p 0 (d - 1) (xPar tk (0, a, o, L)) r) (e : tk a = 26) : xKm tk p 0 (d - 1) (0, a + 1, o, L) r := by
  unfold xPar at h
  rw [if_neg xz9, if_pos e] at h
  exact h
theorem xKm.opq (h : xKm tk p 0 (d - 1) (xPar tk (0, a, o, L)) r) (e : tk a ≠ 26) : r = xfq9 1 a := by
  unfold xPar at h
  rw [if_neg xz9, if_neg e] at h
  exact xKm.flt _ _ _ _ _ (xn9 (by decide)) h
theorem xKm.m1 (hp : p = [] ∨ ∃ q, p = 14 :: q ∨ p = 15 :: q) (h : xKm tk p 0 d r1 r) : ∃ r2, xT3 tk d r1 r2 ∧ xKm tk p 1 d r2 r := by
  rcases hp with e | ⟨q, e | e⟩ <;> subst e
  · unfold xKm at h
    rw [if_pos rfl] at h
    obtain ⟨r2, h1, h2⟩ := h
    refine ⟨r2, h1, ?_⟩
    unfold xKm
    rw [if_neg (by decide), if_pos rfl]
    exact h2
  · unfold xKm at h
    rw [if_pos rfl, if_neg (by decide), if_neg (by decide), if_pos rfl] at h
    obtain ⟨r2, h1, r3, h2⟩ := h
    refine ⟨r2, h1, ?_⟩
    unfold xKm
    rw [if_neg (by decide), if_pos rfl, if_pos rfl]
    exact ⟨r3, h2⟩
  · unfold xKm at h
    rw [if_pos rfl, if_neg (by decide), if_neg (by decide), if_neg (by decide)] at h
    obtain ⟨r2, h1, r3, h2⟩ := h
    refine ⟨r2, h1, ?_⟩
    unfold xKm
    rw [if_neg (by decide), if_pos rfl, if_neg (by decide), if_pos rfl]
    exact ⟨r3, h2⟩
theorem xKm.m2 (hp : p = [] ∨ ∃ q, p = 15 :: q) (h : xKm tk p 1 d r1 r) : ∃ r2, xT4 tk d r1 r2 ∧ xKm tk p 2 d r2 r := by
  rcases hp with e | ⟨q, e⟩ <;> subst e
  · unfold xKm at h
    rw [if_neg (by decide), if_pos rfl] at h
    refine ⟨r, h, ?_⟩
    unfold xKm
    rw [if_neg (by decide), if_neg (by decide)]
  · unfold xKm at h
    rw [if_neg (by decide), if_pos rfl, if_neg (by decide), if_pos rfl] at h
    obtain ⟨r3, h1, h2⟩ := h
    refine ⟨r3, h1, ?_⟩
    unfold xKm
    rw [if_neg (by decide), if_neg (by decide), if_pos rfl]
    exact h2
theorem xKm.and1 (e : tk a = 8) (h : ∃ r2, xT3 tk d (0, a, o, L) r2 ∧ xKm tk p 1 d r2 r) : ∃ r1, xQ tk 0 d (a + 1) o L r1 ∧ xKm tk (13 :: p) 0 d r1 r := by
  obtain ⟨r2, h1, h2⟩ := h
  unfold xT3 at h1
  rw [if_neg xz9] at h1
  obtain ⟨r1, w1, w2⟩ := xQ.v3 h1 e
  refine ⟨r1, w1, ?_⟩
  unfold xKm
  rw [if_pos rfl, if_neg (by decide), if_pos rfl]
  exact ⟨r2, w2, h2⟩
theorem xKm.and (e : tk a = 8) (hp : p = [] ∨ ∃ q, p = 14 :: q ∨ p = 15 :: q) (h : xKm tk p 0 d (0, a, o, L) r) : ∃ r1, xQ tk 0 d (a + 1) o L r1 ∧ xKm tk (13 :: p) 0 d r1 r := xKm.and1 e (h.m1 hp)
theorem xKm.and2 (e : tk a = 8) (h : xKm tk (13 :: p) 0 d (0, a, o, L) r) : ∃ r1, xQ tk 0 d (a + 1) o (L ++ [(13, 0, 0)]) r1 ∧ xKm tk (13 :: p) 0 d r1 r := by
  unfold xKm at h
  rw [if_pos rfl, if_neg (by decide), if_pos rfl] at h
  exact xKm.and1 e h
theorem xKm.or1 (e : tk a = 9) (h : ∃ r3, xT4 tk d (0, a, o, L) r3 ∧ xKm tk p 2 d r3 r) : ∃ r1, xQ tk 0 d (a + 1) o L r1 ∧ xKm tk (14 :: p) 0 d r1 r := by
  obtain ⟨r3, h1, h2⟩ := h
  unfold xT4 at h1
  rw [if_neg xz9] at h1
  obtain ⟨rA, w1, w2⟩ := xQ.v4 h1 e
  obtain ⟨r1, w3, w4⟩ := w1.v1
  refine ⟨r1, w3, ?_⟩
  unfold xKm
  rw [if_pos rfl, if_neg (by decide), if_neg (by decide), if_pos rfl]
  exact ⟨rA, w4, r3, w2, h2⟩
theorem xKm.or (e : tk a = 9) (hp : p = [] ∨ ∃ q, p = 15 :: q) (h : xKm tk p 1 d (0, a, o, L) r) : ∃ r1, xQ tk 0 d (a + 1) o L r1 ∧ xKm tk (14 :: p) 0 d r1 r := xKm.or1 e (h.m2 hp)
theorem xKm.or2 (e : tk a = 9) (h : xKm tk (14 :: p) 1 d (0, a, o, L) r) : ∃ r1, xQ tk 0 d (a + 1) o (L ++ [(14, 0, 0)]) r1 ∧ xKm tk (14 :: p) 0 d r1 r := by
  unfold xKm at h
  rw [if_neg (by decide), if_pos rfl, if_pos rfl] at h
  exact xKm.or1 e h
theorem xKm.da (e8 : tk a ≠ 8) (h : xKm tk (13 :: p) 0 d (0, a, o, L) r) : xKm tk p 1 d (0, a, o, L ++ [(13, 0, 0)]) r := by
  unfold xKm at h
  rw [if_pos rfl, if_neg (by decide), if_pos rfl] at h
  obtain ⟨r2, h1, h2⟩ := h
  have h1' : xT3 tk d (0, a, o, L ++ [(13, 0, 0)]) r2 := h1
  rw [h1'.id e8] at h2
  exact h2
theorem xKm.d0 (e8 : tk a ≠ 8) (hp : p = [] ∨ ∃ q, p = 14 :: q ∨ p = 15 :: q) (h : xKm tk p 0 d (0, a, o, L) r) : xKm tk p 1 d (0, a, o, L) r := by
  obtain ⟨r2, h1, h2⟩ := h.m1 hp
  rw [h1.id e8] at h2
  exact h2
end XKM
abbrev xch9 (c : Int) : Prop := (97 ≤ c ∧ c ≤ 122) ∨ (48 ≤ c ∧ c ≤ 57)
def xskp (f : Int → Int) (n : Int) (p : Int) : Int := if h : p < n ∧ (f p = 32 ∨ f p = 10) then xskp f n (p + 1) else p
termination_by (n - p).toNat
decreasing_by omega
def xnen (f : Int → Int) (n : Int) (p : Int) : Int := if h : p < n ∧ xch9 (f p) then xnen f n (p + 1) else p
termination_by (n - p).toNat
decreasing_by omega
section XLX
variable {f : Int → Int} {n p : Int}
theorem xskp.s (h : p < n ∧ (f p = 32 ∨ f p = 10)) : xskp f n p = xskp f n (p + 1) := by
  rw [xskp.eq_1 f n p, dif_pos h]
theorem xskp.z (h : ¬ (p < n ∧ (f p = 32 ∨ f p = 10))) : xskp f n p = p := by
  rw [xskp.eq_1 f n p, dif_neg h]
theorem xnen.s (h : p < n ∧ xch9 (f p)) : xnen f n p = xnen f n (p + 1) := by
  rw [xnen.eq_1 f n p, dif_pos h]
theorem xnen.z (h : ¬ (p < n ∧ xch9 (f p))) : xnen f n p = p := by
  rw [xnen.eq_1 f n p, dif_neg h]
theorem xskp.ge : ∀ (k : Nat) (p : Int), (n - p).toNat ≤ k → p ≤ xskp f n p ∧ (p ≤ n → xskp f n p ≤ n) ∧ ¬ (xskp f n p < n ∧ (f (xskp f n p) = 32 ∨ f (xskp f n p) = 10)) := by
  intro k
  induction k with
  | zero =>
    intro p hp
    have c : ¬ (p < n ∧ (f p = 32 ∨ f p = 10)) := by omega
    rw [xskp.z c]
    exact ⟨Int.le_refl _, fun q => q, c⟩
  | succ k ih =>
    intro p hp
    by_cases c : p < n ∧ (f p = 32 ∨ f p = 10)
    · rw [xskp.s c]
      have w := ih (p + 1) (by omega)
      exact ⟨by omega, fun q => w.2.1 (by omega), w.2.2⟩
    · rw [xskp.z c]
      exact ⟨Int.le_refl _, fun q => q, c⟩
theorem xnen.ge : ∀ (k : Nat) (p : Int), (n - p).toNat ≤ k → p ≤ xnen f n p ∧ (p ≤ n → xnen f n p ≤ n) ∧ (∀ i, p ≤ i → i < xnen f n p → i < n ∧ xch9 (f i)) := by
  intro k
  induction k with
  | zero =>
    intro p hp
    have c : ¬ (p < n ∧ xch9 (f p)) := by omega
    rw [xnen.z c]
    exact ⟨Int.le_refl _, fun q => q, fun i q1 q2 => by omega⟩
  | succ k ih =>
    intro p hp
    by_cases c : p < n ∧ xch9 (f p)
    · rw [xnen.s c]
      have w := ih (p + 1) (by omega)
      refine ⟨by omega, fun q => w.2.1 (by omega), fun i q1 q2 => ?_⟩
      by_cases e : i = p
      · rw [e]; exact c
      · exact w.2.2 i (by omega) q2
    · rw [xnen.z c]
      exact ⟨Int.le_refl _, fun q => q, fun i q1 q2 => by omega⟩
end XLX
def xmkc (b : Int) : Int := if b = 59 then 24 else if b = 40 then 25 else if b = 41 then 26 else if 60 ≤ b ∧ b ≤ 62 then b - 33 else 22
def xdg (f : Int → Int) (s : Int) : Nat → Int × Int
  | 0 => (0, 0)
  | k + 1 => if 48 ≤ f (s + k) ∧ f (s + k) ≤ 57 then ((xdg f s k).1 + 1, if (xdg f s k).1 + 1 ≤ 4 then (xdg f s k).2 * 10 + f (s + k) - 48 else (xdg f s k).2) else xdg f s k
def xwf (f : Int → Int) (s k : Int) : List Int → Int → Int → Int
  | [], _, _ => 22
  | c :: l, w, lk => if c = 32 then (if lk = k then w else xwf f s k l (w + 1) 0) else if 0 ≤ lk ∧ lk < k ∧ f (s + lk) = c then xwf f s k l w (lk + 1) else xwf f s k l w (-1)
def xWS : List Int := [112, 114, 105, 99, 101, 32, 99, 114, 121, 32, 98, 97, 99, 107, 32, 109, 111, 115, 116, 32, 115, 101, 108, 108, 32, 111, 119, 101, 32, 105, 102, 32, 110, 111, 116, 32, 97, 110, 100, 32, 111, 114, 32, 115, 99, 104, 111, 111, 108, 32, 98, 97, 100, 103, 101, 32, 111, 119, 110, 101, 114, 32, 97, 103, 101, 32, 104, 111, 117, 114, 32, 119, 101, 101, 107, 32, 100, 97, 121, 32, 112, 97, 112, 101, 114, 32, 99, 111, 114, 110, 101, 114, 32, 99, 111, 112, 105, 101, 115, 32, 119, 101, 97, 116, 104, 101, 114, 32, 102, 105, 115, 116, 115, 32]
def xnc (f : Int → Int) (s e : Int) : Int := if (xdg f s (e - s).toNat).1 = e - s then (if (xdg f s (e - s).toNat).1 ≤ 4 then 100 + (xdg f s (e - s).toNat).2 else 22) else if (xdg f s (e - s).toNat).1 = 0 then xwf f s (e - s) xWS 0 0 else 22
def xcd (f : Int → Int) (n s : Int) : Int := if s < n ∧ s < 300 then (if xch9 (f s) then xnc f s (xnen f n s) else xmkc (f s)) else 23
def xplc (n s : Int) : Int := if s < n ∧ s < 300 then s else if n < 300 then n else 300
def xed (f : Int → Int) (n s : Int) : Int := if s < n ∧ s < 300 then (if xch9 (f s) then xnen f n s else s + 1) else s
def xtp (f : Int → Int) (n : Int) : Nat → Int
  | 0 => xskp f n 0
  | k + 1 => xskp f n (xed f n (xtp f n k))
def xtk (f : Int → Int) (n a : Int) : Int := xcd f n (xtp f n a.toNat)
def xtl (f : Int → Int) (n a : Int) : Int := xplc n (xtp f n a.toNat)
theorem xtp.s {f : Int → Int} {n a : Int} (ha : 0 ≤ a) : xtp f n (a + 1).toNat = xskp f n (xed f n (xtp f n a.toNat)) := by
  rw [show (a + 1).toNat = a.toNat + 1 by omega]
  rfl
theorem xdg.b {f : Int → Int} {s : Int} : ∀ k : Nat, 0 ≤ (xdg f s k).1 ∧ (xdg f s k).1 ≤ k ∧ 0 ≤ (xdg f s k).2 ∧ ((xdg f s k).1 = 0 → (xdg f s k).2 = 0) ∧ ((xdg f s k).1 ≤ 1 → (xdg f s k).2 ≤ 9) ∧ ((xdg f s k).1 ≤ 2 → (xdg f s k).2 ≤ 99) ∧ ((xdg f s k).1 ≤ 3 → (xdg f s k).2 ≤ 999) ∧ (xdg f s k).2 ≤ 9999 := by
  intro k
  induction k with
  | zero => exact ⟨Int.le_refl _, Int.le_refl _, Int.le_refl _, fun _ => rfl, fun _ => (show (0 : Int) ≤ 9 by decide), fun _ => (show (0 : Int) ≤ 99 by decide), fun _ => (show (0 : Int) ≤ 999 by decide), (show (0 : Int) ≤ 9999 by decide)⟩
  | succ k ih =>
    unfold xdg
    by_cases c : 48 ≤ f (s + k) ∧ f (s + k) ≤ 57
    · rw [if_pos c]
      show 0 ≤ (xdg f s k).1 + 1 ∧ (xdg f s k).1 + 1 ≤ ((k + 1 : Nat) : Int) ∧ 0 ≤ (if (xdg f s k).1 + 1 ≤ 4 then (xdg f s k).2 * 10 + f (s + k) - 48 else (xdg f s k).2) ∧ ((xdg f s k).1 + 1 = 0 → (if (xdg f s k).1 + 1 ≤ 4 then (xdg f s k).2 * 10 + f (s + k) - 48 else (xdg f s k).2) = 0) ∧ ((xdg f s k).1 + 1 ≤ 1 → (if (xdg f s k).1 + 1 ≤ 4 then (xdg f s k).2 * 10 + f (s + k) - 48 else (xdg f s k).2) ≤ 9) ∧ ((xdg f s k).1 + 1 ≤ 2 → (if (xdg f s k).1 + 1 ≤ 4 then (xdg f s k).2 * 10 + f (s + k) - 48 else (xdg f s k).2) ≤ 99) ∧ ((xdg f s k).1 + 1 ≤ 3 → (if (xdg f s k).1 + 1 ≤ 4 then (xdg f s k).2 * 10 + f (s + k) - 48 else (xdg f s k).2) ≤ 999) ∧ (if (xdg f s k).1 + 1 ≤ 4 then (xdg f s k).2 * 10 + f (s + k) - 48 else (xdg f s k).2) ≤ 9999
      generalize (xdg f s k).1 = x at ih ⊢
      generalize (xdg f s k).2 = y at ih ⊢
      generalize f (s + k) = z at c ⊢
      by_cases c4 : x + 1 ≤ 4
      · rw [if_pos c4]; omega
      · rw [if_neg c4]; omega
    · rw [if_neg c]
      omega
theorem xwf.r {f : Int → Int} {s k : Int} : ∀ (l : List Int) (w lk : Int), 0 ≤ w → 0 ≤ xwf f s k l w lk ∧ xwf f s k l w lk ≤ w + 22 + l.length := by
  intro l
  induction l with
  | nil => intro w lk hw; show 0 ≤ (22 : Int) ∧ (22 : Int) ≤ w + 22 + ((0 : Nat) : Int); omega
  | cons c l ih =>
    intro w lk hw
    have e : (((c :: l).length : Nat) : Int) = (l.length : Int) + 1 := by show ((l.length + 1 : Nat) : Int) = _; omega
    rw [e]
    unfold xwf
    by_cases c1 : c = 32
    · rw [if_pos c1]
      by_cases c2 : lk = k
      · rw [if_pos c2]; omega
      · rw [if_neg c2]
        have := ih (w + 1) 0 (by omega)
        omega
    · rw [if_neg c1]
      by_cases c2 : 0 ≤ lk ∧ lk < k ∧ f (s + lk) = c
      · rw [if_pos c2]
        have := ih w (lk + 1) hw
        omega
      · rw [if_neg c2]
        have := ih w (-1) hw
        omega
def xwb (f : Int → Int) (s k : Int) : List Int → Int → Bool
  | [], lk => decide (lk = k)
  | c :: l, lk => decide (lk < k ∧ f (s + lk) = c) && xwb f s k l (lk + 1)
theorem xwf.m1 {f : Int → Int} {s k : Int} : ∀ (w rest : List Int) (j : Int), (∀ c ∈ w, c ≠ 32) → 0 ≤ k → xwf f s k (w ++ 32 :: rest) j (-1) = xwf f s k rest (j + 1) 0 := by
  intro w
  induction w with
  | nil =>
    intro rest j _ hk
    show (if (32 : Int) = 32 then _ else _) = _
    rw [if_pos rfl, if_neg (by omega)]
  | cons c w ih =>
    intro rest j h hk
    show (if c = 32 then _ else if (0 : Int) ≤ -1 ∧ _ then _ else _) = _
    rw [if_neg (h c (List.mem_cons_self ..)), if_neg (by omega)]
    exact ih rest j (fun c' hc => h c' (List.mem_cons_of_mem _ hc)) hk
theorem xwf.w {f : Int → Int} {s k : Int} : ∀ (w rest : List Int) (j lk : Int), (∀ c ∈ w, c ≠ 32) → 0 ≤ k → 0 ≤ lk → xwf f s k (w ++ 32 :: rest) j lk = if xwb f s k w lk = true then j else xwf f s k rest (j + 1) 0 := by
  intro w
  induction w with
  | nil =>
    intro rest j lk _ hk hl
    show (if (32 : Int) = 32 then _ else _) = (if decide (lk = k) = true then _ else _)
    rw [if_pos rfl]
    by_cases e : lk = k
    · rw [if_pos e, if_pos (decide_eq_true e)]
    · rw [if_neg e, if_neg (by rw [decide_eq_true_eq]; exact e)]
  | cons c w ih =>
    intro rest j lk h hk hl
    have h' : ∀ c' ∈ w, c' ≠ 32 := fun c' hc => h c' (List.mem_cons_of_mem _ hc)
    show (if c = 32 then _ else if 0 ≤ lk ∧ lk < k ∧ f (s + lk) = c then xwf f s k (w ++ 32 :: rest) j (lk + 1) else xwf f s k (w ++ 32 :: rest) j (-1)) = if (decide (lk < k ∧ f (s + lk) = c) && xwb f s k w (lk + 1)) = true then _ else _
    rw [if_neg (h c (List.mem_cons_self ..))]
    by_cases e : lk < k ∧ f (s + lk) = c
    · rw [if_pos ⟨hl, e⟩, decide_eq_true e, Bool.true_and]
      exact ih rest j (lk + 1) h' hk (by omega)
    · rw [if_neg (fun q => e q.2), xwf.m1 w rest j h' hk, decide_eq_false e, Bool.false_and, if_neg (by decide)]
def xb27 (f : Int → Int) (s : Int) : Nat → Int
  | 0 => 0
  | k + 1 => 27 * xb27 f s k + (f (s + k) - 96)
def xlr : List Int → Int
  | [] => 0
  | c :: w => 27 * xlr w + (c - 96)
theorem xlr.nn : ∀ w : List Int, (∀ c ∈ w, 97 ≤ c ∧ c ≤ 122) → 0 ≤ xlr w := by
  intro w
  induction w with
  | nil => intro _; exact Int.le_refl _
  | cons c w ih =>
    intro h
    have a := ih (fun c' hc => h c' (List.mem_cons_of_mem _ hc))
    have b := h c (List.mem_cons_self ..)
    show 0 ≤ 27 * xlr w + (c - 96)
    omega
theorem xb27.nn {f : Int → Int} {s : Int} : ∀ k : Nat, (∀ i : Int, 0 ≤ i → i < k → 97 ≤ f (s + i) ∧ f (s + i) ≤ 122) → 0 ≤ xb27 f s k := by
  intro k
  induction k with
  | zero => intro _; exact Int.le_refl _
  | succ k ih =>
    intro h
    have a := ih (fun i q1 q2 => h i q1 (by omega))
    have b := h k (by omega) (by omega)
    show 0 ≤ 27 * xb27 f s k + (f (s + k) - 96)
    omega
theorem xb27.inj {f : Int → Int} {s : Int} : ∀ (k : Nat) (w : List Int), (∀ i : Int, 0 ≤ i → i < k → 97 ≤ f (s + i) ∧ f (s + i) ≤ 122) → (∀ c ∈ w, 97 ≤ c ∧ c ≤ 122) → (xb27 f s k = xlr w ↔ (w.length = k ∧ ∀ i : Nat, i < k → f (s + i) = w.reverse.getD i 0)) := by
  intro k
  induction k with
  | zero =>
    intro w _ hw
    cases w with
    | nil => exact ⟨fun _ => ⟨rfl, fun i q => absurd q (Nat.not_lt_zero _)⟩, fun _ => rfl⟩
    | cons c w =>
      have a := xlr.nn w (fun c' hc => hw c' (List.mem_cons_of_mem _ hc))
      have b := hw c (List.mem_cons_self ..)
      refine ⟨fun e => ?_, fun e => ?_⟩
      · exfalso
        have e' : (0 : Int) = 27 * xlr w + (c - 96) := e
        omega
      · have e1 : w.length + 1 = 0 := e.1
        omega
  | succ k ih =>
    intro w hf hw
    have nn := xb27.nn k (fun i q1 q2 => hf i q1 (by omega))
    have d := hf k (by omega) (by omega)
    cases w with
    | nil =>
      refine ⟨fun e => ?_, fun e => ?_⟩
      · exfalso
        have e' : 27 * xb27 f s k + (f (s + k) - 96) = 0 := e
        omega
      · have e1 : 0 = k + 1 := e.1
        omega
    | cons c w =>
      have hw' : ∀ c' ∈ w, 97 ≤ c' ∧ c' ≤ 122 := fun c' hc => hw c' (List.mem_cons_of_mem _ hc)
      have a := xlr.nn w hw'
      have b := hw c (List.mem_cons_self ..)
      have i0 := ih w (fun i q1 q2 => hf i q1 (by omega)) hw'
      have ge : ∀ i : Nat, i < w.length → (c :: w).reverse.getD i 0 = w.reverse.getD i 0 := fun i hi => by
        rw [List.reverse_cons, List.getD_eq_getElem?_getD, List.getElem?_append_left (by rw [List.length_reverse]; exact hi), ← List.getD_eq_getElem?_getD]
      have gl : (c :: w).reverse.getD w.length 0 = c := by
        rw [List.reverse_cons, List.getD_eq_getElem?_getD, List.getElem?_append_right (by rw [List.length_reverse]; exact Nat.le_refl _), List.length_reverse, Nat.sub_self]
        rfl
      refine ⟨fun e => ?_, fun e => ?_⟩
      · have e' : 27 * xb27 f s k + (f (s + k) - 96) = 27 * xlr w + (c - 96) := e
        have e1 : xb27 f s k = xlr w := by omega
        have e2 : f (s + k) = c := by omega
        obtain ⟨l1, l2⟩ := i0.mp e1
        refine ⟨by show w.length + 1 = k + 1; omega, fun i hi => ?_⟩
        by_cases q : i = k
        · rw [q, ← l1, gl, l1]; exact e2
        · rw [ge i (by omega)]; exact l2 i (by omega)
      · have l1 : w.length + 1 = k + 1 := e.1
        have e1 := i0.mpr ⟨by omega, fun i hi => by rw [← ge i (by omega)]; exact e.2 i (by omega)⟩
        have e2 : f (s + k) = c := by
          have := e.2 k (by omega)
          rw [show k = w.length by omega, gl, show w.length = k by omega] at this
          exact this
        show 27 * xb27 f s k + (f (s + k) - 96) = 27 * xlr w + (c - 96)
        omega
theorem xwb.iff {f : Int → Int} {s k : Int} : ∀ (w : List Int) (lk : Int), 0 ≤ lk → (xwb f s k w lk = true ↔ (k = lk + w.length ∧ ∀ i : Nat, i < w.length → f (s + lk + i) = w.getD i 0)) := by
  intro w
  induction w with
  | nil =>
    intro lk hl
    show decide (lk = k) = true ↔ _
    rw [decide_eq_true_eq]
    exact ⟨fun e => ⟨by show k = lk + ((0 : Nat) : Int); omega, fun i hi => absurd hi (Nat.not_lt_zero _)⟩, fun e => by have e1 : k = lk + ((0 : Nat) : Int) := e.1; omega⟩
  | cons c w ih =>
    intro lk hl
    show (decide (lk < k ∧ f (s + lk) = c) && xwb f s k w (lk + 1)) = true ↔ _
    rw [Bool.and_eq_true, decide_eq_true_eq, ih (lk + 1) (by omega)]
    have el : (((c :: w).length : Nat) : Int) = (w.length : Int) + 1 := by show ((w.length + 1 : Nat) : Int) = _; omega
    constructor
    · rintro ⟨⟨a1, a2⟩, a3, a4⟩
      refine ⟨by omega, fun i hi => ?_⟩
      cases i with
      | zero => show f (s + lk + ((0 : Nat) : Int)) = c; rw [show s + lk + ((0 : Nat) : Int) = s + lk by omega]; exact a2
      | succ i =>
        show f (s + lk + ((i + 1 : Nat) : Int)) = w.getD i 0
        rw [← a4 i (Nat.lt_of_succ_lt_succ hi)]
        congr 1
        omega
    · rintro ⟨a1, a2⟩
      have z := a2 0 (Nat.zero_lt_succ _)
      refine ⟨⟨by omega, ?_⟩, by omega, fun i hi => ?_⟩
      · have z' : f (s + lk + ((0 : Nat) : Int)) = c := z
        rw [show s + lk + ((0 : Nat) : Int) = s + lk by omega] at z'
        exact z'
      · have q := a2 (i + 1) (Nat.succ_lt_succ hi)
        have q' : f (s + lk + ((i + 1 : Nat) : Int)) = w.getD i 0 := q
        rw [← q']
        congr 1
        omega
def xwl : List (List Int) := [[112, 114, 105, 99, 101], [99, 114, 121], [98, 97, 99, 107], [109, 111, 115, 116], [115, 101, 108, 108], [111, 119, 101], [105, 102], [110, 111, 116], [97, 110, 100], [111, 114], [115, 99, 104, 111, 111, 108], [98, 97, 100, 103, 101], [111, 119, 110, 101, 114], [97, 103, 101], [104, 111, 117, 114], [119, 101, 101, 107], [100, 97, 121], [112, 97, 112, 101, 114], [99, 111, 114, 110, 101, 114], [99, 111, 112, 105, 101, 115], [119, 101, 97, 116, 104, 101, 114], [102, 105, 115, 116, 115]]
def xjn : List (List Int) → List Int
  | [] => []
  | w :: ws => w ++ 32 :: xjn ws
theorem xWS_jn : xWS = xjn xwl := by decide
def xfi (f : Int → Int) (s k : Int) : List (List Int) → Int → Int
  | [], _ => 22
  | w :: ws, j => if xwb f s k w 0 = true then j else xfi f s k ws (j + 1)
theorem xwf.jn {f : Int → Int} {s k : Int} (hk : 0 ≤ k) : ∀ (ws : List (List Int)) (j : Int), (∀ w ∈ ws, ∀ c ∈ w, c ≠ 32) → xwf f s k (xjn ws) j 0 = xfi f s k ws j := by
  intro ws
  induction ws with
  | nil => intro j _; rfl
  | cons w ws ih =>
    intro j h
    show xwf f s k (w ++ 32 :: xjn ws) j 0 = if xwb f s k w 0 = true then j else xfi f s k ws (j + 1)
    rw [xwf.w w (xjn ws) j 0 (h w (List.mem_cons_self ..)) hk (Int.le_refl _), ih (j + 1) (fun w' hw => h w' (List.mem_cons_of_mem _ hw))]
theorem xfi.sp {f : Int → Int} {s k : Int} : ∀ (ws : List (List Int)) (j : Int), (∃ i : Nat, i < ws.length ∧ xfi f s k ws j = j + i ∧ xwb f s k (ws.getD i []) 0 = true) ∨ (xfi f s k ws j = 22 ∧ ∀ i : Nat, i < ws.length → ¬ xwb f s k (ws.getD i []) 0 = true) := by
  intro ws
  induction ws with
  | nil => intro j; exact Or.inr ⟨rfl, fun i hi => absurd hi (Nat.not_lt_zero _)⟩
  | cons w ws ih =>
    intro j
    unfold xfi
    by_cases c : xwb f s k w 0 = true
    · rw [if_pos c]
      exact Or.inl ⟨0, Nat.zero_lt_succ _, by show j = j + ((0 : Nat) : Int); omega, c⟩
    · rw [if_neg c]
      rcases ih (j + 1) with ⟨i, i1, i2, i3⟩ | ⟨i1, i2⟩
      · exact Or.inl ⟨i + 1, Nat.succ_lt_succ i1, by rw [i2]; omega, i3⟩
      · refine Or.inr ⟨i1, fun i hi => ?_⟩
        cases i with
        | zero => exact c
        | succ i => exact i2 i (Nat.lt_of_succ_lt_succ hi)
def xvl (j : Int) : Int := xlr (xwl.getD j.toNat []).reverse
theorem xwl_a : ∀ i : Fin 22, ∀ c ∈ xwl.getD i.val [], 97 ≤ c ∧ c ≤ 122 := by decide
theorem xwl_b : ∀ w ∈ xwl, ∀ c ∈ w, c ≠ 32 := by decide
theorem xwb.v {f : Int → Int} {s k : Int} {w : List Int} (hk : 0 ≤ k) (hl : ∀ i : Int, 0 ≤ i → i < k → 97 ≤ f (s + i) ∧ f (s + i) ≤ 122) (hw : ∀ c ∈ w, 97 ≤ c ∧ c ≤ 122) : xwb f s k w 0 = true ↔ xb27 f s k.toNat = xlr w.reverse := by
  have hr : ∀ c ∈ w.reverse, 97 ≤ c ∧ c ≤ 122 := fun c hc => hw c (List.mem_reverse.mp hc)
  rw [xwb.iff w 0 (Int.le_refl _), xb27.inj k.toNat w.reverse (fun i q1 q2 => hl i q1 (by omega)) hr, List.length_reverse, List.reverse_reverse]
  constructor
  · rintro ⟨a1, a2⟩
    refine ⟨by omega, fun i hi => ?_⟩
    rw [← a2 i (by omega)]
    congr 1
    omega
  · rintro ⟨a1, a2⟩
    refine ⟨by omega, fun i hi => ?_⟩
    rw [← a2 i (by omega)]
    congr 1
    omega
theorem xcw {f : Int → Int} {s k : Int} (hk : 0 ≤ k) (hl : ∀ i : Int, 0 ≤ i → i < k → 97 ≤ f (s + i) ∧ f (s + i) ≤ 122) : (0 ≤ xwf f s k xWS 0 0 ∧ xwf f s k xWS 0 0 < 22 ∧ xb27 f s k.toNat = xvl (xwf f s k xWS 0 0)) ∨ (xwf f s k xWS 0 0 = 22 ∧ ∀ j : Int, 0 ≤ j → j < 22 → xb27 f s k.toNat ≠ xvl j) := by
  rw [xWS_jn, xwf.jn hk xwl 0 xwl_b]
  have len : xwl.length = 22 := by decide
  rcases xfi.sp (f := f) (s := s) (k := k) xwl 0 with ⟨i, i1, i2, i3⟩ | ⟨i1, i2⟩
  · rw [len] at i1
    have e : xfi f s k xwl 0 = (i : Int) := by omega
    refine Or.inl ⟨by omega, by omega, ?_⟩
    rw [e]
    show _ = xlr (xwl.getD ((i : Int)).toNat []).reverse
    rw [show ((i : Int)).toNat = i by omega]
    exact (xwb.v hk hl (xwl_a ⟨i, i1⟩)).mp i3
  · refine Or.inr ⟨i1, fun j q1 q2 e => ?_⟩
    exact i2 j.toNat (by rw [len]; omega) ((xwb.v hk hl (xwl_a ⟨j.toNat, by omega⟩)).mpr e)
def xnu (f : Int → Int) (s : Int) : Nat → Int
  | 0 => 0
  | k + 1 => if k < 4 then 10 * xnu f s k + f (s + k) - 48 else xnu f s k
theorem xdg.all {f : Int → Int} {s : Int} : ∀ k : Nat, (∀ i : Int, 0 ≤ i → i < k → 48 ≤ f (s + i) ∧ f (s + i) ≤ 57) → xdg f s k = ((k : Int), xnu f s k) := by
  intro k
  induction k with
  | zero => intro _; rfl
  | succ k ih =>
    intro h
    have a := ih (fun i q1 q2 => h i q1 (by omega))
    have b := h k (by omega) (by omega)
    unfold xdg
    rw [if_pos b, a]
    show ((k : Int) + 1, if (k : Int) + 1 ≤ 4 then xnu f s k * 10 + f (s + k) - 48 else xnu f s k) = (((k + 1 : Nat) : Int), if k < 4 then 10 * xnu f s k + f (s + k) - 48 else xnu f s k)
    by_cases c : k < 4
    · rw [if_pos c, if_pos (by omega), Int.mul_comm 10]
      rfl
    · rw [if_neg c, if_neg (by omega)]
      rfl
theorem xdg.no {f : Int → Int} {s : Int} : ∀ k : Nat, (∀ i : Int, 0 ≤ i → i < k → ¬ (48 ≤ f (s + i) ∧ f (s + i) ≤ 57)) → xdg f s k = (0, 0) := by
  intro k
  induction k with
  | zero => intro _; rfl
  | succ k ih =>
    intro h
    unfold xdg
    rw [if_neg (h k (by omega) (by omega))]
    exact ih (fun i q1 q2 => h i q1 (by omega))
theorem xdg.mix {f : Int → Int} {s : Int} : ∀ k : Nat, (∃ i : Int, 0 ≤ i ∧ i < k ∧ 48 ≤ f (s + i) ∧ f (s + i) ≤ 57) → (∃ i : Int, 0 ≤ i ∧ i < k ∧ ¬ (48 ≤ f (s + i) ∧ f (s + i) ≤ 57)) → 0 < (xdg f s k).1 ∧ (xdg f s k).1 < k := by
  have pos : ∀ k : Nat, (∃ i : Int, 0 ≤ i ∧ i < k ∧ 48 ≤ f (s + i) ∧ f (s + i) ≤ 57) → 0 < (xdg f s k).1 := by
    intro k
    induction k with
    | zero => rintro ⟨i, a1, a2, _⟩; omega
    | succ k ih =>
      rintro ⟨i, a1, a2, a3⟩
      have b := (xdg.b (f := f) (s := s) k).1
      unfold xdg
      by_cases c : 48 ≤ f (s + k) ∧ f (s + k) ≤ 57
      · rw [if_pos c]; show 0 < (xdg f s k).1 + 1; omega
      · rw [if_neg c]
        refine ih ⟨i, a1, ?_, a3⟩
        by_cases e : i = k
        · rw [e] at a3; exact absurd a3 c
        · omega
  have lt : ∀ k : Nat, (∃ i : Int, 0 ≤ i ∧ i < k ∧ ¬ (48 ≤ f (s + i) ∧ f (s + i) ≤ 57)) → (xdg f s k).1 < k := by
    intro k
    induction k with
    | zero => rintro ⟨i, a1, a2, _⟩; omega
    | succ k ih =>
      rintro ⟨i, a1, a2, a3⟩
      have b := (xdg.b (f := f) (s := s) k).2.1
      unfold xdg
      by_cases c : 48 ≤ f (s + k) ∧ f (s + k) ≤ 57
      · rw [if_pos c]
        show (xdg f s k).1 + 1 < ((k + 1 : Nat) : Int)
        have := ih ⟨i, a1, (by
          by_cases e : i = k
          · rw [e] at a3; exact absurd c a3
          · omega), a3⟩
        omega
      · rw [if_neg c]; omega
  exact fun k h1 h2 => ⟨pos k h1, lt k h2⟩
def xCur (c kind num word sign : Int) : Prop := (kind = 2 ∧ ((0 ≤ c ∧ c < 22 ∧ word = xvl c) ∨ (c = 22 ∧ ∀ j : Int, 0 ≤ j → j < 22 → word ≠ xvl j))) ∨ (kind = 3 ∧ c = 100 + num ∧ 0 ≤ num ∧ num ≤ 9999) ∨ (kind = 4 ∧ c = xmkc sign ∧ c ≠ 22) ∨ (kind = 1 ∧ (c = 22 ∨ c = 23)) ∨ (kind = 0 ∧ c = 23)
theorem xvl_inj : ∀ i j : Fin 22, xvl ((i.val : Nat) : Int) = xvl ((j.val : Nat) : Int) → i = j := by decide
theorem xCur.key {c kind num word sign j : Int} (h : xCur c kind num word sign) (hj : 0 ≤ j ∧ j < 22) : (kind = 2 ∧ word = xvl j) ↔ c = j := by
  constructor
  · rintro ⟨a, b⟩
    rcases h with ⟨_, ⟨h1, h2, h3⟩ | ⟨h1, h2⟩⟩ | h | h | h | h
    · have e := xvl_inj ⟨c.toNat, by omega⟩ ⟨j.toNat, by omega⟩ (by
        show xvl ((c.toNat : Nat) : Int) = xvl ((j.toNat : Nat) : Int)
        rw [show ((c.toNat : Nat) : Int) = c by omega, show ((j.toNat : Nat) : Int) = j by omega, ← h3, b])
      have e' : c.toNat = j.toNat := congrArg Fin.val e
      omega
    · exact absurd b (h2 j hj.1 hj.2)
    · omega
    · omega
    · omega
    · omega
  · intro e
    rcases h with ⟨k, ⟨h1, h2, h3⟩ | ⟨h1, h2⟩⟩ | h | ⟨h, h', h''⟩ | h | h
    · exact ⟨k, by rw [← e]; exact h3⟩
    · omega
    · omega
    · exfalso
      unfold xmkc at h'
      split at h'
      · omega
      · split at h'
        · omega
        · split at h'
          · omega
          · split at h' <;> omega
    · omega
    · omega
theorem xdg.dig {f : Int → Int} {s i d v : Int} (hi : s ≤ i) (h : 48 ≤ f i ∧ f i ≤ 57) (e1 : d = (xdg f s (i - s).toNat).1) (e2 : v = (xdg f s (i - s).toNat).2) : d + 1 = (xdg f s (i + 1 - s).toNat).1 ∧ (if d + 1 ≤ 4 then v * 10 + f i - 48 else v) = (xdg f s (i + 1 - s).toNat).2 := by
  have ek : (i + 1 - s).toNat = (i - s).toNat + 1 := by omega
  have es : s + (((i - s).toNat : Nat) : Int) = i := by omega
  rw [ek]
  unfold xdg
  rw [es, if_pos h, ← e1, ← e2]
  exact ⟨rfl, rfl⟩
theorem xdg.nod {f : Int → Int} {s i : Int} (hi : s ≤ i) (h : ¬ (48 ≤ f i ∧ f i ≤ 57)) : xdg f s (i + 1 - s).toNat = xdg f s (i - s).toNat := by
  have ek : (i + 1 - s).toNat = (i - s).toNat + 1 := by omega
  have es : s + (((i - s).toNat : Nat) : Int) = i := by omega
  rw [ek]
  show (if 48 ≤ f (s + (((i - s).toNat : Nat) : Int)) ∧ _ then _ else _) = _
  rw [es, if_neg h]
theorem xdrp : ∀ (l : List Int) (i : Nat), i < l.length → l.drop i = l.getD i 0 :: l.drop (i + 1) := by
  intro l
  induction l with
  | nil => intro i hi; exact absurd hi (Nat.not_lt_zero _)
  | cons c l ih =>
    intro i hi
    cases i with
    | zero => rfl
    | succ i => exact ih i (Nat.lt_of_succ_lt_succ hi)
theorem xWS_len : xWS.length = 114 := by decide
theorem xWS_d {i c : Int} (hi : 0 ≤ i ∧ i < 114) (hc : c = xWS.getD i.toNat 0) : xWS.drop i.toNat = c :: xWS.drop (i + 1).toNat := by
  rw [hc, show (i + 1).toNat = i.toNat + 1 by omega]
  exact xdrp xWS i.toNat (by rw [xWS_len]; omega)
theorem xwf.sp {f : Int → Int} {s k i w lk c : Int} (hi : 0 ≤ i ∧ i < 114) (hc : c = xWS.getD i.toNat 0) (e : c = 32) : xwf f s k (xWS.drop i.toNat) w lk = if lk = k then w else xwf f s k (xWS.drop (i + 1).toNat) (w + 1) 0 := by
  rw [xWS_d hi hc]
  show (if c = 32 then _ else _) = _
  rw [if_pos e]
theorem xwf.lt {f : Int → Int} {s k i w lk c : Int} (hi : 0 ≤ i ∧ i < 114) (hc : c = xWS.getD i.toNat 0) (e : c ≠ 32) : xwf f s k (xWS.drop i.toNat) w lk = if 0 ≤ lk ∧ lk < k ∧ f (s + lk) = c then xwf f s k (xWS.drop (i + 1).toNat) w (lk + 1) else xwf f s k (xWS.drop (i + 1).toNat) w (-1) := by
  rw [xWS_d hi hc]
  show (if c = 32 then _ else _) = _
  rw [if_neg e]
theorem xwf.en {f : Int → Int} {s k i w lk : Int} (hi : 114 ≤ i) : xwf f s k (xWS.drop i.toNat) w lk = 22 := by
  rw [List.drop_eq_nil_of_le (by rw [xWS_len]; omega)]
  rfl
def xmx9 (a b : Int) : Int := if a ≤ b then b else a
def xTA (A B : Int → Int) (f : Int → Int) (n c : Int) : Prop := ∀ k, 0 ≤ k → k < c → A k = xtk f n k ∧ B k = xtl f n k
theorem xTA.add {A B A' B' f : Int → Int} {n c x y : Int} (h : xTA A B f n c) (hc : 0 ≤ c) (a1 : A' c = x) (a2 : ∀ k, 0 ≤ k → k ≠ c → A' k = A k) (b1 : B' c = y) (b2 : ∀ k, 0 ≤ k → k ≠ c → B' k = B k) (ex : x = xtk f n c) (ey : y = xtl f n c) : xTA A' B' f n (c + 1) := fun k q1 q2 => by
  by_cases e : k = c
  · rw [e, a1, b1]; exact ⟨ex, ey⟩
  · rw [a2 k q1 e, b2 k q1 e]; exact h k q1 (by omega)
theorem xsc.in {f : Int → Int} {n i b t : Int} (h : xskp f n (xmx9 b i) = xtp f n t.toNat) (hb : i < b) : xskp f n (xmx9 b (i + 1)) = xtp f n t.toNat := by
  rw [← h]
  unfold xmx9
  by_cases c : b ≤ i + 1
  · rw [if_pos c, if_neg (by omega), show i + 1 = b by omega]
  · rw [if_neg c, if_neg (by omega)]
theorem xsc.sp {f : Int → Int} {n i b t : Int} (h : xskp f n (xmx9 b i) = xtp f n t.toNat) (hb : b ≤ i) (hi : i < n) (hs : f i = 32 ∨ f i = 10) : xskp f n (xmx9 b (i + 1)) = xtp f n t.toNat := by
  rw [← h]
  unfold xmx9
  rw [if_pos hb, if_pos (by omega), xskp.s ⟨hi, hs⟩]
theorem xsc.at {f : Int → Int} {n i b t : Int} (h : xskp f n (xmx9 b i) = xtp f n t.toNat) (hb : b ≤ i) (hs : ¬ (f i = 32 ∨ f i = 10)) : xtp f n t.toNat = i := by
  rw [← h]
  unfold xmx9
  rw [if_pos hb, xskp.z (fun q => hs q.2)]
theorem xsc.go {f : Int → Int} {n i b' t : Int} (ht : 0 ≤ t) (e : xtp f n t.toNat = i) (hb : b' = xed f n i) (hl : i + 1 ≤ b') : xskp f n (xmx9 b' (i + 1)) = xtp f n (t + 1).toNat := by
  rw [xtp.s ht, e, ← hb]
  unfold xmx9
  by_cases c : b' ≤ i + 1
  · rw [if_pos c, show i + 1 = b' by omega]
  · rw [if_neg c]
theorem xsc.end {f : Int → Int} {n i b t : Int} (h : xskp f n (xmx9 b i) = xtp f n t.toNat) (hi : n ≤ i ∨ 300 ≤ i) : xtk f n t = 23 ∧ xtl f n t = (if n < 300 then n else 300) := by
  have g := (xskp.ge (f := f) (n := n) (n - xmx9 b i).toNat (xmx9 b i) (Nat.le_refl _)).1
  have m : i ≤ xmx9 b i := by
    unfold xmx9
    split <;> omega
  rw [h] at g
  unfold xtk xtl xcd xplc
  rw [if_neg (by omega), if_neg (by omega)]
  exact ⟨rfl, rfl⟩
theorem xtk.nm {f : Int → Int} {n i t : Int} (e : xtp f n t.toNat = i) (hi : i < n ∧ i < 300) (hc : xch9 (f i)) : xtk f n t = xnc f i (xnen f n i) ∧ xtl f n t = i ∧ xed f n i = xnen f n i ∧ i + 1 ≤ xnen f n i := by
  have g := (xnen.ge (f := f) (n := n) (n - (i + 1)).toNat (i + 1) (Nat.le_refl _)).1
  have s := xnen.s (f := f) (n := n) (p := i) ⟨hi.1, hc⟩
  unfold xtk xtl xcd xplc xed
  rw [e, if_pos hi, if_pos hc, if_pos hi, if_pos hi, if_pos hc]
  exact ⟨rfl, rfl, rfl, by rw [s]; exact g⟩
theorem xtk.mk {f : Int → Int} {n i t : Int} (e : xtp f n t.toNat = i) (hi : i < n ∧ i < 300) (hc : ¬ xch9 (f i)) : xtk f n t = xmkc (f i) ∧ xtl f n t = i ∧ xed f n i = i + 1 := by
  unfold xtk xtl xcd xplc xed
  rw [e, if_pos hi, if_neg hc, if_pos hi, if_pos hi, if_neg hc]
  exact ⟨rfl, rfl, rfl⟩
def xwi (i w : Int) : Prop := (0 ≤ i ∧ i ≤ 114) ∧ w = ((xWS.take i.toNat).count 32 : Int)
theorem xwi.z : xwi 0 0 := ⟨by omega, rfl⟩
theorem xtk1 : ∀ (l : List Int) (i : Nat), i < l.length → l.take (i + 1) = l.take i ++ [l.getD i 0] := by
  intro l
  induction l with
  | nil => intro i hi; exact absurd hi (Nat.not_lt_zero _)
  | cons c l ih =>
    intro i hi
    cases i with
    | zero => rfl
    | succ i => show c :: l.take (i + 1) = c :: (l.take i ++ [l.getD i 0]); rw [ih i (Nat.lt_of_succ_lt_succ hi)]
theorem xwi.s {i w c : Int} (h : xwi i w) (hi : 0 ≤ i ∧ i < 114) (hc : c = xWS.getD i.toNat 0) : (xWS.take (i + 1).toNat).count 32 = (xWS.take i.toNat).count 32 + (if c = 32 then 1 else 0) := by
  rw [show (i + 1).toNat = i.toNat + 1 by omega, xtk1 xWS i.toNat (by rw [xWS_len]; omega), List.count_append, ← hc]
  by_cases e : c = 32
  · rw [if_pos e, e]; rfl
  · rw [if_neg e]
    have : List.count 32 [c] = 0 := List.count_eq_zero.mpr (fun q => e (List.mem_singleton.mp q).symm)
    rw [this]
theorem xwi.sp {i w c : Int} (h : xwi i w) (hi : 0 ≤ i ∧ i < 114) (hc : c = xWS.getD i.toNat 0) (e : c = 32) : xwi (i + 1) (w + 1) := ⟨by omega, by
  rw [h.s hi hc, if_pos e, h.2]
  omega⟩
theorem xwi.lt {i w c : Int} (h : xwi i w) (hi : 0 ≤ i ∧ i < 114) (hc : c = xWS.getD i.toNat 0) (e : c ≠ 32) : xwi (i + 1) w := ⟨by omega, by
  rw [h.s hi hc, if_neg e, h.2]
  omega⟩
theorem xwi_r : ∀ i : Fin 115, (xWS.take i.val).count 32 ≤ 22 := by decide
theorem xwi.b {i w : Int} (h : xwi i w) : 0 ≤ w ∧ w ≤ 22 := by
  have := xwi_r ⟨i.toNat, by have := h.1; omega⟩
  have e := h.2
  have this' : (xWS.take i.toNat).count 32 ≤ 22 := this
  omega
theorem xWSb : ∀ j : Fin 114, wdB.getD j.val 0 &&& iI 255 = iI (xWS.getD j.val 0) ∧ 0 ≤ xWS.getD j.val 0 ∧ xWS.getD j.val 0 ≤ 255 := by decide +kernel
theorem xiinj3 {a b : Int} (ha : -2147483648 ≤ a ∧ a ≤ 2147483647) (hb : -2147483648 ≤ b ∧ b ≤ 2147483647) (h : iI a = iI b) : a = b := by
  have e := congrArg Int32.toInt h
  rw [iI_toInt ha.1 ha.2, iI_toInt hb.1 hb.2] at e
  exact e
theorem xWSc {j z y : Int} (hj : 0 ≤ j ∧ j < 114) (e : wdB.getD j.toNat 0 = iI z) (e2 : iI z &&& iI 255 = iI y) (hy : -2147483648 ≤ y ∧ y ≤ 2147483647) : y = xWS.getD j.toNat 0 := by
  have h := xWSb ⟨j.toNat, by omega⟩
  have h1 : wdB.getD j.toNat 0 &&& iI 255 = iI (xWS.getD j.toNat 0) := h.1
  have h2 : 0 ≤ xWS.getD j.toNat 0 ∧ xWS.getD j.toNat 0 ≤ 255 := h.2
  rw [e, e2] at h1
  exact xiinj3 hy (by omega) h1
def xRt (r : xRr9) (F a o q : Int) (tl : Int → Int) : Prop := (r.1 = 0 ∧ F = 0 ∧ a = r.2.1 ∧ o = r.2.2.1) ∨ (r.1 ≠ 0 ∧ F = r.1 ∧ q = tl r.2.1)
theorem xRt.ok {r : xRr9} {F a o q : Int} {tl : Int → Int} (h : xRt r F a o q tl) (e : F = 0) : r.1 = 0 ∧ a = r.2.1 ∧ o = r.2.2.1 := by
  rcases h with h | h
  · exact ⟨h.1, h.2.2.1, h.2.2.2⟩
  · omega
theorem xRt.no {r : xRr9} {F a o q : Int} {tl : Int → Int} (h : xRt r F a o q tl) (e : F ≠ 0) : r.1 ≠ 0 ∧ F = r.1 ∧ q = tl r.2.1 := by
  rcases h with h | h
  · omega
  · exact h
def xRR (tk tl : Int → Int) (m d a o : Int) (F a1 o1 q : Int) : Prop := ∀ L : List (Int × Int × Int), ∃ r : xRr9, xQ tk m d a o L r ∧ xRt r F a1 o1 q tl
section XRR
variable {tk tl : Int → Int} {d a o F a1 o1 q F2 a2 o2 q2 : Int}
theorem xRR.b (h : xRR tk tl 0 d a o F a1 o1 q) (e : F = 0) : o + 1 ≤ o1 ∧ o1 ≤ 50 ∧ a + 1 ≤ a1 := by
  obtain ⟨r, h1, h2⟩ := h []
  obtain ⟨e1, e2, e3⟩ := h2.ok e
  have k := (h1.ok (Or.inl rfl) e1).2.2.1 (by omega)
  omega
theorem xRR.f1 (h : ¬ (10 ≤ tk a ∧ tk a ≤ 21) ∧ tk a ≠ 7 ∧ tk a ≠ 25) (hq : q = tl a) : xRR tk tl 0 d a o 1 a1 o1 q := fun L => ⟨_, xQ.f1 h, Or.inr ⟨xn9 (by decide), rfl, hq⟩⟩
theorem xRR.f4 (h : ¬ (¬ (10 ≤ tk a ∧ tk a ≤ 21) ∧ tk a ≠ 7 ∧ tk a ≠ 25)) (h2 : 50 ≤ o ∨ 10 < d) (hq : q = tl a) : xRR tk tl 0 d a o 4 a1 o1 q := fun L => ⟨_, xQ.f4 h h2, Or.inr ⟨xn9 (by decide), rfl, hq⟩⟩
theorem xRR.flag (h : 10 ≤ tk a ∧ tk a ≤ 12) (h2 : ¬ (50 ≤ o ∨ 10 < d)) (ea : a1 = a + 1) (eo : o1 = o + 1) : xRR tk tl 0 d a o 0 a1 o1 q := fun L => ⟨_, xQ.flag h h2, Or.inl ⟨rfl, rfl, ea, eo⟩⟩
theorem xRR.fs (h : 13 ≤ tk a ∧ tk a ≤ 21) (h2 : ¬ (50 ≤ o ∨ 10 < d)) (h3 : ¬ (27 ≤ tk (a + 1) ∧ tk (a + 1) ≤ 29)) (hq : q = tl (a + 1)) : xRR tk tl 0 d a o 1 a1 o1 q := fun L => ⟨_, xQ.fs h h2 h3, Or.inr ⟨xn9 (by decide), rfl, hq⟩⟩
theorem xRR.fn (h : 13 ≤ tk a ∧ tk a ≤ 21) (h2 : ¬ (50 ≤ o ∨ 10 < d)) (h3 : 27 ≤ tk (a + 1) ∧ tk (a + 1) ≤ 29) (h4 : tk (a + 2) < 100) (hq : q = tl (a + 2)) : xRR tk tl 0 d a o 1 a1 o1 q := fun L => ⟨_, xQ.fn h h2 h3 h4, Or.inr ⟨xn9 (by decide), rfl, hq⟩⟩
theorem xRR.cmp (h : 13 ≤ tk a ∧ tk a ≤ 21) (h2 : ¬ (50 ≤ o ∨ 10 < d)) (h3 : 27 ≤ tk (a + 1) ∧ tk (a + 1) ≤ 29) (h4 : 100 ≤ tk (a + 2)) (ea : a1 = a + 3) (eo : o1 = o + 1) : xRR tk tl 0 d a o 0 a1 o1 q := fun L => ⟨_, xQ.cmp h h2 h3 h4, Or.inl ⟨rfl, rfl, ea, eo⟩⟩
theorem xRR.nt (h : tk a = 7) (h2 : ¬ (50 ≤ o ∨ 10 < d)) (h3 : xRR tk tl 0 (d + 1) (a + 1) (o + 1) F a1 o1 q) : xRR tk tl 0 d a o F a1 o1 q := fun L => by
  obtain ⟨r, w1, w2⟩ := h3 L
  refine ⟨_, xQ.nt h h2 w1, ?_⟩
  unfold xEm9
  rcases w2 with ⟨e1, e2, e3, e4⟩ | ⟨e1, e2, e3⟩
  · rw [if_neg (by omega)]; exact Or.inl ⟨rfl, e2, e3, e4⟩
  · rw [if_pos e1]; exact Or.inr ⟨e1, e2, e3⟩
theorem xRR.pf (h : tk a = 25) (h2 : ¬ (50 ≤ o ∨ 10 < d)) (h3 : xRR tk tl 2 (d + 1) (a + 1) (o + 1) F a1 o1 q) (e : F ≠ 0) : xRR tk tl 0 d a o F a2 o2 q := fun L => by
  obtain ⟨r, w1, w2⟩ := h3 L
  obtain ⟨e1, e2, e3⟩ := w2.no e
  refine ⟨_, xQ.par h h2 w1, Or.inr ?_⟩
  unfold xPar
  rw [if_pos e1]
  exact ⟨e1, e2, e3⟩
theorem xRR.po (h : tk a = 25) (h2 : ¬ (50 ≤ o ∨ 10 < d)) (h3 : xRR tk tl 2 (d + 1) (a + 1) (o + 1) F a1 o1 q) (e : F = 0) (h4 : tk a1 = 26) : xRR tk tl 0 d a o 0 (a1 + 1) o1 q2 := fun L => by
  obtain ⟨r, w1, w2⟩ := h3 L
  obtain ⟨e1, e2, e3⟩ := w2.ok e
  refine ⟨_, xQ.par h h2 w1, Or.inl ?_⟩
  unfold xPar
  rw [if_neg (by omega), if_pos (by rw [← e2]; exact h4), ← e2, ← e3]
  exact ⟨rfl, rfl, rfl, rfl⟩
theorem xRR.px (h : tk a = 25) (h2 : ¬ (50 ≤ o ∨ 10 < d)) (h3 : xRR tk tl 2 (d + 1) (a + 1) (o + 1) F a1 o1 q) (e : F = 0) (h4 : tk a1 ≠ 26) (hq : q2 = tl a1) : xRR tk tl 0 d a o 1 a2 o2 q2 := fun L => by
  obtain ⟨r, w1, w2⟩ := h3 L
  obtain ⟨e1, e2, e3⟩ := w2.ok e
  refine ⟨_, xQ.par h h2 w1, Or.inr ?_⟩
  unfold xPar
  rw [if_neg (by omega), if_neg (by rw [← e2]; exact h4), ← e2]
  exact ⟨xn9 (by decide), rfl, hq⟩
theorem xRR.sq {m m' : Int} (hm : (m = 0 ∧ m' = 1) ∨ (m = 1 ∧ m' = 2)) (h : xRR tk tl m d a o F a1 o1 q) (h2 : F ≠ 0 → F2 = F ∧ q2 = q) (h3 : F = 0 → xRR tk tl (m' + 2) d a1 o1 F2 a2 o2 q2) : xRR tk tl m' d a o F2 a2 o2 q2 := fun L => by
  obtain ⟨r, w1, w2⟩ := h L
  by_cases c : F = 0
  · obtain ⟨e1, e2, e3⟩ := w2.ok c
    obtain ⟨r', u1, u2⟩ := h3 c r.2.2.2
    rw [e2, e3] at u1
    rcases hm with ⟨m0, m1⟩ | ⟨m0, m1⟩ <;> subst m0 <;> subst m1
    · exact ⟨r', xQ.all w1 (by rw [if_neg (by omega)]; exact u1), u2⟩
    · exact ⟨r', xQ.cond w1 (by rw [if_neg (by omega)]; exact u1), u2⟩
  · obtain ⟨e1, e2, e3⟩ := w2.no c
    obtain ⟨f1, f2⟩ := h2 c
    refine ⟨r, ?_, Or.inr ⟨e1, by omega, by rw [f2]; exact e3⟩⟩
    rcases hm with ⟨m0, m1⟩ | ⟨m0, m1⟩ <;> subst m0 <;> subst m1
    · exact xQ.all w1 (by rw [if_pos e1])
    · exact xQ.cond w1 (by rw [if_pos e1])
theorem xRR.t0 {m : Int} (hm : (m = 3 ∧ tk a ≠ 8) ∨ (m = 4 ∧ tk a ≠ 9)) : xRR tk tl m d a o 0 a o q := fun L => by
  rcases hm with ⟨m0, h⟩ | ⟨m0, h⟩ <;> subst m0
  · exact ⟨_, xQ.a0 h, Or.inl ⟨rfl, rfl, rfl, rfl⟩⟩
  · exact ⟨_, xQ.c0 h, Or.inl ⟨rfl, rfl, rfl, rfl⟩⟩
theorem xRR.t1 {m m' : Int} (hm : (m = 3 ∧ m' = 0 ∧ tk a = 8) ∨ (m = 4 ∧ m' = 1 ∧ tk a = 9)) (h : xRR tk tl m' d (a + 1) o F a1 o1 q) (h2 : F ≠ 0 → F2 = F ∧ q2 = q) (h3 : F = 0 → xRR tk tl m d a1 o1 F2 a2 o2 q2) : xRR tk tl m d a o F2 a2 o2 q2 := fun L => by
  obtain ⟨r, w1, w2⟩ := h L
  by_cases c : F = 0
  · obtain ⟨e1, e2, e3⟩ := w2.ok c
    rcases hm with ⟨m0, m1, t⟩ | ⟨m0, m1, t⟩ <;> subst m0 <;> subst m1
    · obtain ⟨r', u1, u2⟩ := h3 c (r.2.2.2 ++ [(13, 0, 0)])
      rw [e2, e3] at u1
      exact ⟨r', xQ.a1 t w1 (by rw [if_neg (by omega)]; exact u1), u2⟩
    · obtain ⟨r', u1, u2⟩ := h3 c (r.2.2.2 ++ [(14, 0, 0)])
      rw [e2, e3] at u1
      exact ⟨r', xQ.c1 t w1 (by rw [if_neg (by omega)]; exact u1), u2⟩
  · obtain ⟨e1, e2, e3⟩ := w2.no c
    obtain ⟨f1, f2⟩ := h2 c
    refine ⟨r, ?_, Or.inr ⟨e1, by omega, by rw [f2]; exact e3⟩⟩
    rcases hm with ⟨m0, m1, t⟩ | ⟨m0, m1, t⟩ <;> subst m0 <;> subst m1
    · exact xQ.a1 t w1 (by rw [if_pos e1])
    · exact xQ.c1 t w1 (by rw [if_pos e1])
end XRR
def xTB (A B tk tl : Int → Int) (c : Int) : Prop := (∀ k, 0 ≤ k → k ≤ c → A k = tk k ∧ B k = tl k) ∧ tk c = 23 ∧ 0 ≤ c ∧ c ≤ 300
theorem xTB.lt {A B tk tl : Int → Int} {c a : Int} (h : xTB A B tk tl c) (ha : a ≤ c) (e : tk a ≠ 23) : a + 1 ≤ c := by
  by_cases q : a = c
  · rw [q] at e; exact absurd h.2.1 e
  · omega
def xIn (tk tl : Int → Int) (m d a o F ai oi qi : Int) : Prop := (F = 0 → ∀ F2 a2 o2 q2, xRR tk tl (m + 2) d ai oi F2 a2 o2 q2 → xRR tk tl m d a o F2 a2 o2 q2) ∧ (F ≠ 0 → ∀ a2 o2, xRR tk tl m d a o F a2 o2 qi)
theorem xRt.an {r : xRr9} {F a o q a2 o2 : Int} {tl : Int → Int} (h : xRt r F a o q tl) (e : F ≠ 0) : xRt r F a2 o2 q tl := Or.inr (h.no e)
theorem xRR.an {tk tl : Int → Int} {m d a o F a1 o1 q a2 o2 : Int} (h : xRR tk tl m d a o F a1 o1 q) (e : F ≠ 0) : xRR tk tl m d a o F a2 o2 q := fun L => by
  obtain ⟨r, w1, w2⟩ := h L
  exact ⟨r, w1, w2.an e⟩
section XIN
variable {tk tl : Int → Int} {d a o F ai oi qi F1 a1 o1 q1 : Int}
theorem xIn.z {m m' : Int} (hm : (m = 0 ∧ m' = 1) ∨ (m = 1 ∧ m' = 2)) (h : xRR tk tl m d a o F ai oi qi) : xIn tk tl m' d a o F ai oi qi := ⟨fun e F2 a2 o2 q2 w => xRR.sq hm h (fun c => absurd e c) (fun _ => w), fun e a2 o2 => xRR.sq (F2 := F) (a2 := a2) (o2 := o2) (q2 := qi) hm h (fun _ => ⟨rfl, rfl⟩) (fun c => absurd c e)⟩
theorem xIn.s {m m' : Int} (hm : (m = 1 ∧ m' = 0 ∧ tk ai = 8) ∨ (m = 2 ∧ m' = 1 ∧ tk ai = 9)) (h : xIn tk tl m d a o F ai oi qi) (e : F = 0) (h1 : xRR tk tl m' d (ai + 1) oi F1 a1 o1 q1) : xIn tk tl m d a o F1 a1 o1 q1 := by
  have hm' : (m + 2 = 3 ∧ m' = 0 ∧ tk ai = 8) ∨ (m + 2 = 4 ∧ m' = 1 ∧ tk ai = 9) := by omega
  refine ⟨fun c F2 a2 o2 q2 w => ?_, fun c a2 o2 => ?_⟩
  · exact h.1 e F2 a2 o2 q2 (xRR.t1 hm' h1 (fun q => absurd c q) (fun _ => w))
  · exact h.1 e F1 a2 o2 q1 (xRR.t1 (F2 := F1) (q2 := q1) hm' h1 (fun _ => ⟨rfl, rfl⟩) (fun q => absurd q c))
theorem xIn.e {m : Int} (h : xIn tk tl m d a o F ai oi qi) (e : F = 0 → (m = 1 ∧ tk ai ≠ 8) ∨ (m = 2 ∧ tk ai ≠ 9)) : xRR tk tl m d a o F ai oi qi := by
  by_cases c : F = 0
  · have w := h.1 c 0 ai oi qi (xRR.t0 (by have := e c; omega))
    rw [c]; exact w
  · exact h.2 c ai oi
end XIN
def xRS (tk tl : Int → Int) (a o F a1 o1 q : Int) : Prop := ∃ r : xRr9, xQ tk 2 1 a o [] r ∧ xRt r F a1 o1 q tl
theorem xRR.rs {tk tl : Int → Int} {a o F a1 o1 q : Int} (h : xRR tk tl 2 1 a o F a1 o1 q) : xRS tk tl a o F a1 o1 q := h []
theorem xRS.det {tk tl : Int → Int} {a o F a1 o1 q F' a1' o1' q' : Int} (h : xRS tk tl a o F a1 o1 q) (h' : xRS tk tl a o F' a1' o1' q') : F = F' ∧ (F = 0 → a1 = a1' ∧ o1 = o1') ∧ (F ≠ 0 → q = q') := by
  obtain ⟨r, h1, h2⟩ := h
  obtain ⟨r', h1', h2'⟩ := h'
  have e := h1.det h1'
  subst e
  rcases h2 with ⟨a1, a2, a3, a4⟩ | ⟨a1, a2, a3⟩
  · rcases h2' with ⟨b1, b2, b3, b4⟩ | ⟨b1, b2, b3⟩
    · exact ⟨by omega, fun _ => ⟨by omega, by omega⟩, fun w => absurd a2 w⟩
    · exact absurd a1 b1
  · rcases h2' with ⟨b1, b2, b3, b4⟩ | ⟨b1, b2, b3⟩
    · exact absurd b1 a1
    · exact ⟨by omega, fun w => by omega, fun _ => by rw [a3, b3]⟩
def xLb (tk : Int → Int) (a b : Int) : Prop := (tk a = 4 ∧ tk (a + 1) = 7 ∧ b = a + 2) ∨ (tk a = 4 ∧ tk (a + 1) ≠ 7 ∧ b = a + 1) ∨ (tk a ≠ 4 ∧ 100 ≤ tk (a + 1) ∧ tk (a + 1) ≤ 1100 ∧ b = a + 2)
def xLc (tk tl : Int → Int) (a b o Fc ac oc qc : Int) : Prop := (tk a ≠ 5 ∧ tk b = 6 ∧ xRS tk tl (b + 1) o Fc ac oc qc) ∨ (¬ (tk a ≠ 5 ∧ tk b = 6) ∧ Fc = 0 ∧ ac = b ∧ oc = o)
def xLn (tk tl : Int → Int) (a o nl ow F a1 o1 nl1 ow1 q : Int) : Prop := (6 ≤ tk a ∧ F = 1 ∧ q = tl a) ∨ (tk a < 6 ∧ (16 ≤ nl ∨ (tk a = 5 ∧ ow = 1)) ∧ F = 3 ∧ q = tl a) ∨ (tk a < 6 ∧ ¬ (16 ≤ nl ∨ (tk a = 5 ∧ ow = 1)) ∧ ((tk a ≠ 4 ∧ tk (a + 1) < 100 ∧ F = 1 ∧ q = tl (a + 1)) ∨ (tk a ≠ 4 ∧ 1100 < tk (a + 1) ∧ F = 2 ∧ q = tl (a + 1)) ∨ ∃ b, xLb tk a b ∧ ∃ Fc ac oc qc, xLc tk tl a b o Fc ac oc qc ∧ ((Fc ≠ 0 ∧ F = Fc ∧ q = qc) ∨ (Fc = 0 ∧ tk ac ≠ 24 ∧ F = 1 ∧ q = tl ac) ∨ (Fc = 0 ∧ tk ac = 24 ∧ F = 0 ∧ a1 = ac + 1 ∧ o1 = oc ∧ nl1 = nl + 1 ∧ ow1 = (if tk a = 5 then 1 else ow)))))
theorem xLb.det {tk : Int → Int} {a b b' : Int} (h : xLb tk a b) (h' : xLb tk a b') : b = b' := by
  unfold xLb at h h'
  omega
theorem xLc.det {tk tl : Int → Int} {a b o F a1 o1 q F' a1' o1' q' : Int} (h : xLc tk tl a b o F a1 o1 q) (h' : xLc tk tl a b o F' a1' o1' q') : F = F' ∧ (F = 0 → a1 = a1' ∧ o1 = o1') ∧ (F ≠ 0 → q = q') := by
  rcases h with ⟨x1, x2, x3⟩ | ⟨x1, x2, x3, x4⟩
  · rcases h' with ⟨y1, y2, y3⟩ | ⟨y1, y2, y3, y4⟩
    · exact x3.det y3
    · exact absurd ⟨x1, x2⟩ y1
  · rcases h' with ⟨y1, y2, y3⟩ | ⟨y1, y2, y3, y4⟩
    · exact absurd ⟨y1, y2⟩ x1
    · exact ⟨by omega, fun _ => ⟨by omega, by omega⟩, fun w => absurd x2 w⟩
theorem xLn.det {tk tl : Int → Int} {a o nl ow F a1 o1 nl1 ow1 q F' a1' o1' nl1' ow1' q' : Int} (h : xLn tk tl a o nl ow F a1 o1 nl1 ow1 q) (h' : xLn tk tl a o nl ow F' a1' o1' nl1' ow1' q') : F = F' ∧ (F = 0 → a1 = a1' ∧ o1 = o1' ∧ nl1 = nl1' ∧ ow1 = ow1') ∧ (F ≠ 0 → q = q') := by
  rcases h with ⟨x1, x2, x3⟩ | ⟨x1, x2, x3, x4⟩ | ⟨x1, x2, x3⟩
  · rcases h' with ⟨y1, y2, y3⟩ | ⟨y1, y2, y3, y4⟩ | ⟨y1, y2, y3⟩
    · exact ⟨by omega, fun w => by omega, fun _ => by rw [x3, y3]⟩
    · omega
    · omega
  · rcases h' with ⟨y1, y2, y3⟩ | ⟨y1, y2, y3, y4⟩ | ⟨y1, y2, y3⟩
    · omega
    · exact ⟨by omega, fun w => by omega, fun _ => by rw [x4, y4]⟩
    · exact absurd x2 y2
  · rcases h' with ⟨y1, y2, y3⟩ | ⟨y1, y2, y3, y4⟩ | ⟨y1, y2, y3⟩
    · omega
    · exact absurd y2 x2
    · rcases x3 with ⟨u1, u2, u3, u4⟩ | ⟨u1, u2, u3, u4⟩ | ⟨b, u1, Fc, ac, oc, qc, u2, u3⟩
      · rcases y3 with ⟨v1, v2, v3, v4⟩ | ⟨v1, v2, v3, v4⟩ | ⟨b', v1, Fc', ac', oc', qc', v2, v3⟩
        · exact ⟨by omega, fun w => by omega, fun _ => by rw [u4, v4]⟩
        · omega
        · unfold xLb at v1; omega
      · rcases y3 with ⟨v1, v2, v3, v4⟩ | ⟨v1, v2, v3, v4⟩ | ⟨b', v1, Fc', ac', oc', qc', v2, v3⟩
        · omega
        · exact ⟨by omega, fun w => by omega, fun _ => by rw [u4, v4]⟩
        · unfold xLb at v1; omega
      · rcases y3 with ⟨v1, v2, v3, v4⟩ | ⟨v1, v2, v3, v4⟩ | ⟨b', v1, Fc', ac', oc', qc', v2, v3⟩
        · unfold xLb at u1; omega
        · unfold xLb at u1; omega
        · have e := u1.det v1
          subst e
          obtain ⟨e1, e2, e3⟩ := u2.det v2
          rcases u3 with ⟨w1, w2, w3⟩ | ⟨w1, w2, w3, w4⟩ | ⟨w1, w2, w3, w4, w5, w6, w7⟩
          · have t3 := e3 w1
            rcases v3 with ⟨z1, z2, z3⟩ | ⟨z1, z2, z3, z4⟩ | ⟨z1, z2, z3, z4, z5, z6, z7⟩
            · exact ⟨by omega, fun w => by omega, fun _ => by rw [w3, z3, t3]⟩
            · omega
            · omega
          · have t2 := e2 w1
            rcases v3 with ⟨z1, z2, z3⟩ | ⟨z1, z2, z3, z4⟩ | ⟨z1, z2, z3, z4, z5, z6, z7⟩
            · omega
            · exact ⟨by omega, fun w => by omega, fun _ => by rw [w4, z4, t2.1]⟩
            · rw [← t2.1] at z2; exact absurd z2 w2
          · have t2 := e2 w1
            rcases v3 with ⟨z1, z2, z3⟩ | ⟨z1, z2, z3, z4⟩ | ⟨z1, z2, z3, z4, z5, z6, z7⟩
            · omega
            · rw [← t2.1] at z2; exact absurd w2 z2
            · exact ⟨by omega, fun _ => ⟨by omega, by omega, by omega, by rw [w7, z7]⟩, fun w => absurd w3 w⟩
def xTt (tk tl : Int → Int) : Nat → Int → Int → Int → Int → Int → Int → Int → Prop
  | 0, a, _, nl, _, F, m, q => tk a = 23 ∧ F = 0 ∧ m = nl ∧ q = tl a
  | k + 1, a, o, nl, ow, F, m, q => tk a ≠ 23 ∧ ∃ F1 a1 o1 nl1 ow1 q1, xLn tk tl a o nl ow F1 a1 o1 nl1 ow1 q1 ∧ ((F1 ≠ 0 ∧ F = F1 ∧ q = q1) ∨ (F1 = 0 ∧ xTt tk tl k a1 o1 nl1 ow1 F m q))
def xTT (tk tl : Int → Int) (a o nl ow F m q : Int) : Prop := ∃ k, xTt tk tl k a o nl ow F m q
theorem xTt.det {tk tl : Int → Int} : ∀ (k k' : Nat) (a o nl ow F m q F' m' q' : Int), xTt tk tl k a o nl ow F m q → xTt tk tl k' a o nl ow F' m' q' → F = F' ∧ (F = 0 → m = m') ∧ q = q' := by
  intro k
  induction k with
  | zero =>
    intro k' a o nl ow F m q F' m' q' h h'
    obtain ⟨a1, a2, a3, a4⟩ := h
    cases k' with
    | zero =>
      obtain ⟨b1, b2, b3, b4⟩ := h'
      exact ⟨by omega, fun _ => by omega, by rw [a4, b4]⟩
    | succ k' => exact absurd a1 h'.1
  | succ k ih =>
    intro k' a o nl ow F m q F' m' q' h h'
    obtain ⟨a1, F1, x1, o1, nl1, ow1, q1, a2, a3⟩ := h
    cases k' with
    | zero => exact absurd h'.1 a1
    | succ k' =>
      obtain ⟨b1, F2, x2, o2, nl2, ow2, q2, b2, b3⟩ := h'
      obtain ⟨e1, e2, e3⟩ := a2.det b2
      rcases a3 with ⟨u1, u2, u3⟩ | ⟨u1, u2⟩
      · rcases b3 with ⟨v1, v2, v3⟩ | ⟨v1, v2⟩
        · exact ⟨by omega, fun w => by omega, by rw [u3, v3]; exact e3 u1⟩
        · omega
      · rcases b3 with ⟨v1, v2, v3⟩ | ⟨v1, v2⟩
        · omega
        · obtain ⟨t1, t2, t3, t4⟩ := e2 u1
          subst t1
          subst t2
          subst t3
          subst t4
          exact ih k' _ _ _ _ _ _ _ _ _ _ u2 v2
theorem xTT.det {tk tl : Int → Int} {a o nl ow F m q F' m' q' : Int} (h : xTT tk tl a o nl ow F m q) (h' : xTT tk tl a o nl ow F' m' q') : F = F' ∧ (F = 0 → m = m') ∧ q = q' := by
  obtain ⟨k, h⟩ := h
  obtain ⟨k', h'⟩ := h'
  exact xTt.det k k' _ _ _ _ _ _ _ _ _ _ h h'
def xTi (tk tl : Int → Int) (F a o nl ow q : Int) : Prop := (F = 0 → ∀ F2 m2 q2, xTT tk tl a o nl ow F2 m2 q2 → xTT tk tl 0 0 0 0 F2 m2 q2) ∧ (F ≠ 0 → ∀ m2, xTT tk tl 0 0 0 0 F m2 q)
theorem xTi.z {tk tl : Int → Int} {q : Int} : xTi tk tl 0 0 0 0 0 q := ⟨fun _ F2 m2 q2 h => h, fun h => absurd rfl h⟩
theorem xTi.s {tk tl : Int → Int} {F a o nl ow q F1 a1 o1 nl1 ow1 q1 : Int} (h : xTi tk tl F a o nl ow q) (e : F = 0) (h23 : tk a ≠ 23) (hl : xLn tk tl a o nl ow F1 a1 o1 nl1 ow1 q1) : xTi tk tl F1 a1 o1 nl1 ow1 q1 := by
  refine ⟨fun c F2 m2 q2 w => ?_, fun c m2 => ?_⟩
  · obtain ⟨k, w⟩ := w
    exact h.1 e F2 m2 q2 ⟨k + 1, h23, F1, a1, o1, nl1, ow1, q1, hl, Or.inr ⟨c, w⟩⟩
  · exact h.1 e F1 m2 q1 ⟨1, h23, F1, a1, o1, nl1, ow1, q1, hl, Or.inl ⟨c, rfl, rfl⟩⟩
theorem xTi.e {tk tl : Int → Int} {F a o nl ow q : Int} (h : xTi tk tl F a o nl ow q) (e : F = 0 → tk a = 23) : xTT tk tl 0 0 0 0 F nl (if F = 0 then tl a else q) := by
  by_cases c : F = 0
  · rw [if_pos c, c]
    exact h.1 c 0 nl (tl a) ⟨0, e c, rfl, rfl, rfl⟩
  · rw [if_neg c]; exact h.2 c nl
def xTX (f : Int → Int) (n F m q : Int) : Prop := ∃ F0 q0, xTT (xtk f n) (xtl f n) 0 0 0 0 F0 m q0 ∧ ((¬ (300 < n ∧ F0 = 0) ∧ F = F0 ∧ (F ≠ 0 → q = q0)) ∨ ((300 < n ∧ F0 = 0) ∧ F = 1 ∧ q = q0))
theorem xTX.det {f : Int → Int} {n F m q F' m' q' : Int} (h : xTX f n F m q) (h' : xTX f n F' m' q') : F = F' ∧ (F = 0 → m = m') ∧ (F ≠ 0 → q = q') := by
  obtain ⟨F0, q0, h1, h2⟩ := h
  obtain ⟨F0', q0', h1', h2'⟩ := h'
  obtain ⟨e1, e2, e3⟩ := h1.det h1'
  rcases h2 with ⟨a1, a2, a3⟩ | ⟨a1, a2, a3⟩
  · rcases h2' with ⟨b1, b2, b3⟩ | ⟨b1, b2, b3⟩
    · exact ⟨by omega, fun w => e2 (by omega), fun w => by rw [a3 w, b3 (by omega), e3]⟩
    · omega
  · rcases h2' with ⟨b1, b2, b3⟩ | ⟨b1, b2, b3⟩
    · omega
    · exact ⟨by omega, fun w => by omega, fun _ => by rw [a3, b3, e3]⟩
def xTE (f : Int → Int) (n t td d ff F1 n1 r : Int) : Prop := ((t = 10 ∨ ¬ (td ≤ d ∧ d ≤ 399)) ∧ F1 = ff ∧ n1 = t ∧ r = -1000) ∨ (¬ (t = 10 ∨ ¬ (td ≤ d ∧ d ≤ 399)) ∧ ∃ m q, xTX f n F1 m q ∧ (F1 = 0 → n1 = t + 1 ∧ r = m) ∧ (F1 ≠ 0 → n1 = t ∧ r = -1 - q))
theorem xTE.det {f : Int → Int} {n t td d ff F1 n1 r F1' n1' r' : Int} (h : xTE f n t td d ff F1 n1 r) (h' : xTE f n t td d ff F1' n1' r') : F1 = F1' ∧ n1 = n1' ∧ r = r' := by
  rcases h with ⟨a1, a2, a3, a4⟩ | ⟨a1, m, q, a2, a3, a4⟩
  · rcases h' with ⟨b1, b2, b3, b4⟩ | ⟨b1, m', q', b2, b3, b4⟩
    · exact ⟨by omega, by omega, by omega⟩
    · exact absurd a1 b1
  · rcases h' with ⟨b1, b2, b3, b4⟩ | ⟨b1, m', q', b2, b3, b4⟩
    · exact absurd b1 a1
    · obtain ⟨e1, e2, e3⟩ := a2.det b2
      by_cases c : F1 = 0
      · have x := a3 c
        have y := b3 (by omega)
        have z := e2 c
        exact ⟨e1, by omega, by omega⟩
      · have x := a4 c
        have y := b4 (by omega)
        have z := e3 c
        exact ⟨e1, by omega, by omega⟩
theorem xTA.tb {A B f : Int → Int} {n c : Int} (h : xTA A B f n (c + 1)) (hc : 0 ≤ c ∧ c ≤ 300) (e : xtk f n c = 23) : xTB A B (xtk f n) (xtl f n) c := ⟨fun k q1 q2 => h k q1 (by omega), e, hc.1, hc.2⟩
theorem xLn.ok {tk tl : Int → Int} {a o nl ow F a1 o1 nl1 ow1 q : Int} (h : xLn tk tl a o nl ow F a1 o1 nl1 ow1 q) (e : F = 0) : nl1 = nl + 1 ∧ nl + 1 ≤ 16 := by
  rcases h with ⟨x1, x2, x3⟩ | ⟨x1, x2, x3, x4⟩ | ⟨x1, x2, x3⟩
  · omega
  · omega
  · rcases x3 with ⟨u1, u2, u3, u4⟩ | ⟨u1, u2, u3, u4⟩ | ⟨b, u1, Fc, ac, oc, qc, u2, u3⟩
    · omega
    · omega
    · rcases u3 with ⟨w1, w2, w3⟩ | ⟨w1, w2, w3, w4⟩ | ⟨w1, w2, w3, w4, w5, w6, w7⟩
      · omega
      · omega
      · exact ⟨w6, by omega⟩
section XCG
variable {f f' : Int → Int} {n : Int}
theorem xskp.cg (h : ∀ i, 0 ≤ i → i < n → f i = f' i) : ∀ (k : Nat) (p : Int), 0 ≤ p → (n - p).toNat ≤ k → xskp f n p = xskp f' n p := by
  intro k
  induction k with
  | zero =>
    intro p h0 hp
    rw [xskp.z (fun q => by omega), xskp.z (fun q => by omega)]
  | succ k ih =>
    intro p h0 hp
    by_cases c : p < n ∧ (f p = 32 ∨ f p = 10)
    · rw [xskp.s c, xskp.s (f := f') ⟨c.1, by rw [← h p h0 c.1]; exact c.2⟩]
      exact ih (p + 1) (by omega) (by omega)
    · rw [xskp.z c, xskp.z (f := f') (fun q => c ⟨q.1, by rw [h p h0 q.1]; exact q.2⟩)]
theorem xnen.cg (h : ∀ i, 0 ≤ i → i < n → f i = f' i) : ∀ (k : Nat) (p : Int), 0 ≤ p → (n - p).toNat ≤ k → xnen f n p = xnen f' n p := by
  intro k
  induction k with
  | zero =>
    intro p h0 hp
    rw [xnen.z (fun q => by omega), xnen.z (fun q => by omega)]
  | succ k ih =>
    intro p h0 hp
    by_cases c : p < n ∧ xch9 (f p)
    · rw [xnen.s c, xnen.s (f := f') ⟨c.1, by rw [← h p h0 c.1]; exact c.2⟩]
      exact ih (p + 1) (by omega) (by omega)
    · rw [xnen.z c, xnen.z (f := f') (fun q => c ⟨q.1, by rw [h p h0 q.1]; exact q.2⟩)]
theorem xdg.cg {s : Int} : ∀ k : Nat, (∀ i : Int, 0 ≤ i → i < k → f (s + i) = f' (s + i)) → xdg f s k = xdg f' s k := by
  intro k
  induction k with
  | zero => intro _; rfl
  | succ k ih =>
    intro h
    unfold xdg
    rw [ih (fun i q1 q2 => h i q1 (by omega)), h k (by omega) (by omega)]
theorem xwf.cg {s k : Int} (h : ∀ i : Int, 0 ≤ i → i < k → f (s + i) = f' (s + i)) : ∀ (l : List Int) (w lk : Int), xwf f s k l w lk = xwf f' s k l w lk := by
  intro l
  induction l with
  | nil => intro w lk; rfl
  | cons c l ih =>
    intro w lk
    unfold xwf
    by_cases c1 : c = 32
    · rw [if_pos c1, if_pos c1, ih]
    · rw [if_neg c1, if_neg c1]
      by_cases c2 : 0 ≤ lk ∧ lk < k ∧ f (s + lk) = c
      · rw [if_pos c2, if_pos (show 0 ≤ lk ∧ lk < k ∧ f' (s + lk) = c from ⟨c2.1, c2.2.1, by rw [← h lk c2.1 c2.2.1]; exact c2.2.2⟩), ih]
      · rw [if_neg c2, if_neg (show ¬ (0 ≤ lk ∧ lk < k ∧ f' (s + lk) = c) from fun q => c2 ⟨q.1, q.2.1, by rw [h lk q.1 q.2.1]; exact q.2.2⟩), ih]
theorem xnc.cg {s e : Int} (hs : s ≤ e) (h : ∀ i, s ≤ i → i < e → f i = f' i) : xnc f s e = xnc f' s e := by
  have h1 := xdg.cg (f := f) (f' := f') (s := s) (e - s).toNat (fun i q1 q2 => h (s + i) (by omega) (by omega))
  have h2 := xwf.cg (f := f) (f' := f') (s := s) (k := e - s) (fun i q1 q2 => h (s + i) (by omega) (by omega)) xWS 0 0
  unfold xnc
  rw [h1, h2]
theorem xcd.cg (h : ∀ i, 0 ≤ i → i < n → f i = f' i) {s : Int} (hs : 0 ≤ s) : xcd f n s = xcd f' n s := by
  unfold xcd
  by_cases c : s < n ∧ s < 300
  · rw [if_pos c, if_pos c, h s hs c.1]
    by_cases c2 : xch9 (f' s)
    · rw [if_pos c2, if_pos c2, xnen.cg h (n - s).toNat s hs (Nat.le_refl _)]
      have ge := xnen.ge (f := f') (n := n) (n - s).toNat s (Nat.le_refl _)
      exact xnc.cg ge.1 (fun i q1 q2 => h i (by omega) (ge.2.2 i q1 q2).1)
    · rw [if_neg c2, if_neg c2]
  · rw [if_neg c, if_neg c]
theorem xed.cg (h : ∀ i, 0 ≤ i → i < n → f i = f' i) {s : Int} (hs : 0 ≤ s) : xed f n s = xed f' n s ∧ 0 ≤ xed f n s := by
  unfold xed
  by_cases c : s < n ∧ s < 300
  · rw [if_pos c, if_pos c, h s hs c.1]
    by_cases c2 : xch9 (f' s)
    · rw [if_pos c2, if_pos c2, xnen.cg h (n - s).toNat s hs (Nat.le_refl _)]
      have ge := xnen.ge (f := f') (n := n) (n - s).toNat s (Nat.le_refl _)
      exact ⟨rfl, by omega⟩
    · rw [if_neg c2, if_neg c2]; exact ⟨rfl, by omega⟩
  · rw [if_neg c, if_neg c]; exact ⟨rfl, hs⟩
theorem xtp.cg (h : ∀ i, 0 ≤ i → i < n → f i = f' i) : ∀ k : Nat, 0 ≤ xtp f n k ∧ xtp f n k = xtp f' n k := by
  intro k
  induction k with
  | zero =>
    have ge := xskp.ge (f := f) (n := n) (n - 0).toNat 0 (Nat.le_refl _)
    exact ⟨ge.1, xskp.cg h (n - 0).toNat 0 (Int.le_refl _) (Nat.le_refl _)⟩
  | succ k ih =>
    have e := xed.cg h ih.1
    have ge := xskp.ge (f := f) (n := n) (n - xed f n (xtp f n k)).toNat (xed f n (xtp f n k)) (Nat.le_refl _)
    refine ⟨Int.le_trans e.2 ge.1, ?_⟩
    show xskp f n (xed f n (xtp f n k)) = xskp f' n (xed f' n (xtp f' n k))
    rw [xskp.cg h (n - xed f n (xtp f n k)).toNat (xed f n (xtp f n k)) e.2 (Nat.le_refl _), e.1, ih.2]
theorem xtk.cg (h : ∀ i, 0 ≤ i → i < n → f i = f' i) : xtk f n = xtk f' n := funext (fun a => by
  have e := xtp.cg h a.toNat
  unfold xtk
  rw [← e.2]
  exact xcd.cg h e.1)
theorem xtl.cg (h : ∀ i, 0 ≤ i → i < n → f i = f' i) : xtl f n = xtl f' n := funext (fun a => by
  have e := xtp.cg h a.toNat
  unfold xtl
  rw [e.2])
theorem xTX.cg (h : ∀ i, 0 ≤ i → i < n → f i = f' i) {F m q : Int} (w : xTX f n F m q) : xTX f' n F m q := by
  unfold xTX at w ⊢
  rw [← xtk.cg h, ← xtl.cg h]
  exact w
theorem xTE.cg (h : ∀ i, 0 ≤ i → i < n → f i = f' i) {t td d ff F1 n1 r : Int} (w : xTE f n t td d ff F1 n1 r) : xTE f' n t td d ff F1 n1 r := by
  rcases w with w | ⟨a1, m, q, a2, a3⟩
  · exact Or.inl w
  · exact Or.inr ⟨a1, m, q, a2.cg h, a3⟩
end XCG
set_option maxHeartbeats 4000000 in
set_option maxRecDepth 100000 in
theorem c3_charAtL (l : Launch) (D : va_G) (kA : Nat → ClassId) (b0 : Nat) (t0 : Nat → Nat) (S : xT) (g : xG) (x1 : Int) (hx1 : 0 ≤ x1 ∧ x1 ≤ 113) : xMt l yJ1_charAt_3b067 cJ1_charAt_3b067 2 (some .char) 2 0 0 43 D kA b0 t0 [] [.ref (t0 4), .int (iI x1)] S g (fun (r : Option Value) (S1 : xT) (g1 : xG) => S = S1 ∧ g = g1 ∧ ∃ z : Int, r = some (.int (iI z)) ∧ 0 ≤ z ∧ z ≤ 255 ∧ (z = xWS.getD x1.toNat 0)) := by
  refine xEnterT 0 65535 (fun z h1 h2 => nar_char h1 h2) (by decide) (by simp [lg_sl, Value.category]) [(0, .ref (t0 4)), (1, .int (iI x1))] rfl ?_
  intro K E hK hret ht
  subst ht
  refine X_iloadn hK (i := 1) 1 kd33_2.2.2.2.2.2.2.2.2.2.2.2 rfl rfl ?_
  refine X_aloadn hK (i := 0) 0 kd33_3.1 rfl rfl ?_
  refine X_slen hK kd33_3.2.1 ?_
  refine X_callS hK [.int (iI x1), .int (iI 114)] [] lk_J1_9 (c_checkIndexS _ _ _ _ _ S g x1 114 (by omega) (by omega) (by omega)) kd33_3.2.2.1 rfl rfl (by simp [Value.category]) (by decide) (by decide) (by decide) (by decide) (fun r1 S1 g1 p1 q1 h1 => ?_)
  obtain ⟨rfl, rfl, rfl⟩ := p1
  refine X_st [] rfl ?_
  refine X_aloadn hK (i := 0) 0 kd33_3.2.2.2.1 rfl rfl ?_
  refine X_iloadn hK (i := 1) 1 kd33_3.2.2.2.2.1 rfl rfl ?_
  refine X_sblE hK (by omega) (by omega) kd33_3.2.2.2.2.2.1 (fun z2 e2 l2 u2 => ?_)
  refine X_sipush hK kd33_3.2.2.2.2.2.2.1 (by decide) ?_
  refine X_iand hK kd33_3.2.2.2.2.2.2.2.1 (fun z3 e3 l3 u3 => ?_)
  have b3 := xandB e3 ⟨l3, u3⟩ (by omega)
  refine X_i2c hK (by omega) kd33_3.2.2.2.2.2.2.2.2.1 ?_
  exact hret _ _ _ _ _ _ _ kd33_3.2.2.2.2.2.2.2.2.2 (by omega) (by omega) ⟨rfl, rfl, z3, rfl, (by omega), (by omega), xWSc (by omega) e2 e3 ⟨l3, u3⟩⟩ (Nat.le_refl _) (Nat.le_refl _)

set_option maxHeartbeats 4000000 in
set_option maxRecDepth 100000 in
theorem c3_charAt (l : Launch) (D : va_G) (kA : Nat → ClassId) (b0 : Nat) (t0 : Nat → Nat) (S : xT) (g : xG) (x1 : Int) (hx1 : 0 ≤ x1 ∧ x1 ≤ 113) : xMt l yJ0_charAt_5068e cJ0_charAt_5068e 2 (some .char) 3 0 0 64 D kA b0 t0 [] [.ref (t0 3), .int (iI x1)] S g (fun (r : Option Value) (S1 : xT) (g1 : xG) => S = S1 ∧ g = g1 ∧ ∃ z : Int, r = some (.int (iI z)) ∧ 0 ≤ z ∧ z ≤ 255 ∧ (z = xWS.getD x1.toNat 0)) := by
  refine xEnterT 0 65535 (fun z h1 h2 => nar_char h1 h2) (by decide) (by simp [lg_sl, Value.category]) [(0, .ref (t0 3)), (1, .int (iI x1))] rfl ?_
  intro K E hK hret ht
  subst ht
  refine X_aloadn hK (i := 0) 0 kd33_0.1 rfl rfl ?_
  refine X_callVs hK [] [] lk_J0_492 rfl (c_isLatin1 _ _ _ _ _ S g) kd33_0.2.1 rfl rfl (by simp [Value.category]) (by decide) (by decide) (by decide) (by decide) (fun r1 S1 g1 p1 q1 h1 => ?_)
  obtain ⟨rfl, rfl, z1, rfl, l1, u1⟩ := p1
  refine X_st [.int (iI z1)] rfl ?_
  refine X_if_eq hK 16 (by omega) kd33_0.2.2.1 (by decide) (fun c1 => False.elim (by omega)) (fun c1 => ?_)
  refine X_aloadn hK (i := 0) 0 kd33_0.2.2.2.1 rfl rfl ?_
  refine X_sval hK m_24_1 kd33_0.2.2.2.2.1 ?_
  refine X_iloadn hK (i := 1) 1 kd33_0.2.2.2.2.2.1 rfl rfl ?_
  refine X_callS hK [.ref (E.2.2.2.2.2.2.2 4), .int (iI x1)] [] lk_J0_495 (c3_charAtL _ _ _ _ _ S g x1 (by omega)) kd33_0.2.2.2.2.2.2.1 rfl rfl (by simp [Value.category]) (by decide) (by decide) (by decide) (by decide) (fun r2 S2 g2 p2 q2 h2 => ?_)
  obtain ⟨rfl, rfl, z2, rfl, l2, u2, e2⟩ := p2
  refine X_st [.int (iI z2)] rfl ?_
  exact hret _ _ _ _ _ _ _ kd33_0.2.2.2.2.2.2.2.1 (by omega) (by omega) ⟨rfl, rfl, z2, rfl, (by omega), (by omega), e2⟩ (Nat.le_refl _) (Nat.le_refl _)

set_option maxHeartbeats 4000000 in
set_option maxRecDepth 100000 in
theorem c3_nameEnd (l : Launch) (D : va_G) (kA : Nat → ClassId) (b0 : Nat) (t0 : Nat → Nat) (S : xT) (g : xG) (a0 : Nat) (x1 : Int) (fb : Nat) (tn : Int) (hs_a0 : S a0 = some (10, 0)) (hx1 : 0 ≤ x1 ∧ x1 ≤ 420) (efb : g a0 0 = .ref fb) (hs_fb : S fb = some (13500, 420)) (htn : 0 ≤ tn ∧ tn ≤ 420) (etn : g a0 1 = .int (iI tn)) : xMt l yX7_nameEnd cX7_nameEnd 3 (some .int) 2 0 0 40 D kA b0 t0 [] [.ref a0, .int (iI x1)] S g (fun (r : Option Value) (S1 : xT) (g1 : xG) => S = S1 ∧ g = g1 ∧ ∃ z : Int, r = some (.int (iI z)) ∧ 0 ≤ z ∧ z ≤ 420 ∧ (x1 ≤ z) ∧ (z = xnen (xv g fb) tn x1)) := by
  refine xEnterI (by decide) (by simp [lg_sl, Value.category]) [(0, .ref a0), (1, .int (iI x1))] rfl ?_
  intro K E hK hret _ _ _
  refine X_iloadn hK (i := 1) 1 kd27_1.2.2.2.1 rfl rfl ?_
  refine X_istoren hK (i := 2) [(2, .int (iI x1)), (0, .ref a0), (1, .int (iI x1))] kd27_1.2.2.2.2.1 rfl (by decide) rfl ?_
  have P37 : ∀ (nP37 : Nat) (z28 : Int) (_ : 0 ≤ z28) (_ : z28 ≤ 420) (_ : xnen (xv g fb) tn z28 = xnen (xv g fb) tn x1) (_ : x1 ≤ z28) (_ : 436 - z28 < (nP37 : Int)), X K E 2 [(2, .int (iI z28)), (0, .ref a0), (1, .int (iI x1))] [] S g 0 0 := by
    intro nP37
    induction nP37 with
    | zero => intro z28 lz28 uz28 v38 v39 mP37; exact False.elim (by omega)
    | succ nP37 ihP37 =>
      intro z28 lz28 uz28 v38 v39 mP37
      refine X_iloadn hK (i := 2) 0 kd27_1.2.2.2.2.2.1 rfl rfl ?_
      refine X_aloadn hK (i := 0) 1 kd27_1.2.2.2.2.2.2.1 rfl rfl ?_
      refine X_getK hK fl_X7_55_10 hs_a0 etn kd27_1.2.2.2.2.2.2.2.1 ?_
      refine X_icmp_ge hK 28 (by omega) (by omega) kd27_1.2.2.2.2.2.2.2.2.1 (by decide) (fun c40 => ?_) (fun c40 => ?_)
      · refine X_iloadn hK (i := 2) 0 kd27_2.2.2.2.2.2.1 rfl rfl ?_
        exact hret _ _ _ _ _ _ _ kd27_2.2.2.2.2.2.2.1 ⟨rfl, rfl, z28, rfl, (by omega), (by omega), (by omega), (by rw [← v38]; exact (xnen.z (fun q9 => by omega)).symm)⟩ (Nat.le_refl _) (Nat.le_refl _)
      · refine X_aloadn hK (i := 0) 1 kd27_1.2.2.2.2.2.2.2.2.2.1 rfl rfl ?_
        refine X_getK hK fl_X7_70_10 hs_a0 efb kd27_1.2.2.2.2.2.2.2.2.2.2.1 ?_
        refine X_iloadn hK (i := 2) 0 kd27_1.2.2.2.2.2.2.2.2.2.2.2 rfl rfl ?_
        refine X_iald hK hs_fb (by decide) sl_13500 (by omega) (by omega) kd27_2.1 (fun z41 ez41 lz41 uz41 => ?_)
        have hb42 : xv g fb z28 = z41 := (xv_e (j := z28) ez41 (by omega))
        refine X_callS hK [.int (iI z41)] [] lk_X7_73 (c_X7_isOfName _ _ _ _ _ S g z41 (by omega)) kd27_2.2.1 rfl rfl (by simp [Value.category]) (by decide) (by decide) (by decide) (by decide) (fun r43 S45 g44 pr43 qr43 hg44 => ?_)
        obtain ⟨rfl, rfl, z46, rfl, lz46, uz46, k47⟩ := pr43
        refine X_st [.int (iI z46)] rfl ?_
        refine X_if_eq hK 28 (by omega) kd27_2.2.2.1 (by decide) (fun c48 => ?_) (fun c48 => ?_)
        · refine X_iloadn hK (i := 2) 0 kd27_2.2.2.2.2.2.1 rfl rfl ?_
          exact hret _ _ _ _ _ _ _ kd27_2.2.2.2.2.2.2.1 ⟨rfl, rfl, z28, rfl, (by omega), (by omega), (by omega), (by rw [← v38]; exact (xnen.z (fun q9 => by have h8 := q9.2; rw [hb42] at h8; omega)).symm)⟩ (Nat.le_refl _) (Nat.le_refl _)
        · refine X_iinc hK (i := 2) (z := z28) (n := 1) 0 [(2, .int (iI (z28 + 1))), (0, .ref a0), (1, .int (iI x1))] kd27_2.2.2.2.1 rfl (by decide) rfl ?_
          refine X_goto hK 2 kd27_2.2.2.2.2.1 (by decide) ?_
          exact ihP37  (z28 + 1) (by omega) (by omega) ((xnen.s ⟨by omega, (by rw [hb42]; omega)⟩).symm.trans v38) (by omega) (by omega)
  exact P37 ((436 - x1 : Int).toNat + 1) x1 (by omega) (by omega) rfl (by omega) (by omega)

set_option maxHeartbeats 4000000 in
set_option maxRecDepth 100000 in
theorem c3_markToken (l : Launch) (D : va_G) (kA : Nat → ClassId) (b0 : Nat) (t0 : Nat → Nat) (S : xT) (g : xG) (x0 : Int) (hx0 : 0 ≤ x0 ∧ x0 ≤ 255) : xMt l yX7_markToken cX7_markToken 1 (some .int) 0 0 0 0 D kA b0 t0 [] [.int (iI x0)] S g (fun (r : Option Value) (S1 : xT) (g1 : xG) => S = S1 ∧ g = g1 ∧ ∃ z : Int, r = some (.int (iI z)) ∧ 22 ≤ z ∧ z ≤ 29 ∧ (z = xmkc x0)) := by
  refine xEnterI (by decide) (by simp [lg_sl, Value.category]) [(0, .int (iI x0))] rfl ?_
  intro K E hK hret _ _ _
  refine X_iloadn hK (i := 0) 0 kd20_25.2.2.2.2.2.2.2.2.2.2.1 rfl rfl ?_
  rcases (show (40 ≠ x0 ∧ 41 ≠ x0 ∧ 59 ≠ x0 ∧ 60 ≠ x0 ∧ 61 ≠ x0 ∧ 62 ≠ x0) ∨ x0 = 40 ∨ x0 = 41 ∨ x0 = 59 ∨ x0 = 60 ∨ x0 = 61 ∨ x0 = 62 by omega) with c1 | c1 | c1 | c1 | c1 | c1 | c1
  · refine X_lookup hK (off := 76) 77 (by omega) kd20_25.2.2.2.2.2.2.2.2.2.2.2 (by decide) (by simp [Op.lookupswitch.offset, c1]) (by decide) ?_
    refine X_bipush hK kd20_27.1 (by decide) ?_
    exact hret _ _ _ _ _ _ _ kd20_27.2 ⟨rfl, rfl, 22, rfl, (by omega), (by omega), (by unfold xmkc; (repeat' split) <;> omega)⟩ (Nat.le_refl _) (Nat.le_refl _)
  · refine X_lookup hK (off := 62) 63 (by omega) kd20_25.2.2.2.2.2.2.2.2.2.2.2 (by decide) (by rw [c1]; rfl) (by decide) ?_
    refine X_bipush hK kd20_26.2.2.1 (by decide) ?_
    exact hret _ _ _ _ _ _ _ kd20_26.2.2.2.1 ⟨rfl, rfl, 25, rfl, (by omega), (by omega), (by unfold xmkc; (repeat' split) <;> omega)⟩ (Nat.le_refl _) (Nat.le_refl _)
  · refine X_lookup hK (off := 65) 66 (by omega) kd20_25.2.2.2.2.2.2.2.2.2.2.2 (by decide) (by rw [c1]; rfl) (by decide) ?_
    refine X_bipush hK kd20_26.2.2.2.2.1 (by decide) ?_
    exact hret _ _ _ _ _ _ _ kd20_26.2.2.2.2.2.1 ⟨rfl, rfl, 26, rfl, (by omega), (by omega), (by unfold xmkc; (repeat' split) <;> omega)⟩ (Nat.le_refl _) (Nat.le_refl _)
  · refine X_lookup hK (off := 59) 60 (by omega) kd20_25.2.2.2.2.2.2.2.2.2.2.2 (by decide) (by rw [c1]; rfl) (by decide) ?_
    refine X_bipush hK kd20_26.1 (by decide) ?_
    exact hret _ _ _ _ _ _ _ kd20_26.2.1 ⟨rfl, rfl, 24, rfl, (by omega), (by omega), (by unfold xmkc; (repeat' split) <;> omega)⟩ (Nat.le_refl _) (Nat.le_refl _)
  · refine X_lookup hK (off := 68) 69 (by omega) kd20_25.2.2.2.2.2.2.2.2.2.2.2 (by decide) (by rw [c1]; rfl) (by decide) ?_
    refine X_bipush hK kd20_26.2.2.2.2.2.2.1 (by decide) ?_
    refine X_iloadn hK (i := 0) 0 kd20_26.2.2.2.2.2.2.2.1 rfl rfl ?_
    refine X_iadd hK kd20_26.2.2.2.2.2.2.2.2.1 ?_
    refine X_bipush hK kd20_26.2.2.2.2.2.2.2.2.2.1 (by decide) ?_
    refine X_isub hK kd20_26.2.2.2.2.2.2.2.2.2.2.1 ?_
    exact hret _ _ _ _ _ _ _ kd20_26.2.2.2.2.2.2.2.2.2.2.2 ⟨rfl, rfl, ((27 + x0) - 60), rfl, (by omega), (by omega), (by unfold xmkc; (repeat' split) <;> omega)⟩ (Nat.le_refl _) (Nat.le_refl _)
  · refine X_lookup hK (off := 68) 69 (by omega) kd20_25.2.2.2.2.2.2.2.2.2.2.2 (by decide) (by rw [c1]; rfl) (by decide) ?_
    refine X_bipush hK kd20_26.2.2.2.2.2.2.1 (by decide) ?_
    refine X_iloadn hK (i := 0) 0 kd20_26.2.2.2.2.2.2.2.1 rfl rfl ?_
    refine X_iadd hK kd20_26.2.2.2.2.2.2.2.2.1 ?_
    refine X_bipush hK kd20_26.2.2.2.2.2.2.2.2.2.1 (by decide) ?_
    refine X_isub hK kd20_26.2.2.2.2.2.2.2.2.2.2.1 ?_
    exact hret _ _ _ _ _ _ _ kd20_26.2.2.2.2.2.2.2.2.2.2.2 ⟨rfl, rfl, ((27 + x0) - 60), rfl, (by omega), (by omega), (by unfold xmkc; (repeat' split) <;> omega)⟩ (Nat.le_refl _) (Nat.le_refl _)
  · refine X_lookup hK (off := 68) 69 (by omega) kd20_25.2.2.2.2.2.2.2.2.2.2.2 (by decide) (by rw [c1]; rfl) (by decide) ?_
    refine X_bipush hK kd20_26.2.2.2.2.2.2.1 (by decide) ?_
    refine X_iloadn hK (i := 0) 0 kd20_26.2.2.2.2.2.2.2.1 rfl rfl ?_
    refine X_iadd hK kd20_26.2.2.2.2.2.2.2.2.1 ?_
    refine X_bipush hK kd20_26.2.2.2.2.2.2.2.2.2.1 (by decide) ?_
    refine X_isub hK kd20_26.2.2.2.2.2.2.2.2.2.2.1 ?_
    exact hret _ _ _ _ _ _ _ kd20_26.2.2.2.2.2.2.2.2.2.2.2 ⟨rfl, rfl, ((27 + x0) - 60), rfl, (by omega), (by omega), (by unfold xmkc; (repeat' split) <;> omega)⟩ (Nat.le_refl _) (Nat.le_refl _)

set_option maxHeartbeats 4000000 in
set_option maxRecDepth 100000 in
theorem c3_wordToken (l : Launch) (D : va_G) (kA : Nat → ClassId) (b0 : Nat) (t0 : Nat → Nat) (S : xT) (g : xG) (a0 : Nat) (x1 : Int) (x2 : Int) (fb : Nat) (hs_a0 : S a0 = some (10, 0)) (hx1 : 0 ≤ x1 ∧ x1 ≤ 420) (hx2 : 1 ≤ x2 ∧ x2 ≤ 420) (efb : g a0 0 = .ref fb) (hs_fb : S fb = some (13500, 420)) (hp0 : x1 + x2 ≤ 420) : xMt l yX7_wordToken cX7_wordToken 7 (some .int) 4 0 0 85 D kA b0 t0 [] [.ref a0, .int (iI x1), .int (iI x2)] S g (fun (r : Option Value) (S1 : xT) (g1 : xG) => S = S1 ∧ g = g1 ∧ ∃ z : Int, r = some (.int (iI z)) ∧ 0 ≤ z ∧ z ≤ 22 ∧ (z = xwf (xv g fb) x1 x2 xWS 0 0)) := by
  refine xEnterI (by decide) (by simp [lg_sl, Value.category]) [(0, .ref a0), (1, .int (iI x1)), (2, .int (iI x2))] rfl ?_
  intro K E hK hret _ _ _
  refine X_iconst hK kd34_15.1 ?_
  refine X_istoren hK (i := 3) [(3, .int (iI 0)), (0, .ref a0), (1, .int (iI x1)), (2, .int (iI x2))] kd34_15.2.1 rfl (by decide) rfl ?_
  refine X_iconst hK kd34_15.2.2.1 ?_
  refine X_istore hK (i := 4) [(4, .int (iI 0)), (3, .int (iI 0)), (0, .ref a0), (1, .int (iI x1)), (2, .int (iI x2))] kd34_15.2.2.2.1 (by decide) rfl ?_
  refine X_iconst hK kd34_15.2.2.2.2.1 ?_
  refine X_istore hK (i := 5) [(5, .int (iI 0)), (4, .int (iI 0)), (3, .int (iI 0)), (0, .ref a0), (1, .int (iI x1)), (2, .int (iI x2))] kd34_15.2.2.2.2.2.1 (by decide) rfl ?_
  have P77 : ∀ (nP77 : Nat) (z58 : Int) (_ : 0 ≤ z58) (_ : z58 ≤ 114) (z59 : Int) (_ : (-1) ≤ z59) (_ : z59 ≤ 420) (z60 : Int) (_ : 0 ≤ z60) (_ : z60 ≤ 22) (_ : xwf (xv g fb) x1 x2 (xWS.drop z58.toNat) z60 z59 = xwf (xv g fb) x1 x2 xWS 0 0) (_ : xwi z58 z60) (_ : 130 - z58 < (nP77 : Int)), X K E 8 [(5, .int (iI z58)), (4, .int (iI z59)), (3, .int (iI z60)), (0, .ref a0), (1, .int (iI x1)), (2, .int (iI x2))] [] S g 0 0 := by
    intro nP77
    induction nP77 with
    | zero => intro z58 lz58 uz58 z59 lz59 uz59 z60 lz60 uz60 v78 v79 mP77; exact False.elim (by omega)
    | succ nP77 ihP77 =>
      intro z58 lz58 uz58 z59 lz59 uz59 z60 lz60 uz60 v78 v79 mP77
      refine X_iload hK (i := 5) 0 kd34_15.2.2.2.2.2.2.1 rfl ?_
      refine X_ldcS hK kd34_15.2.2.2.2.2.2.2.1 ?_
      refine X_callVs hK [] [.int (iI z58)] lk_X7_100 rfl (c_length _ _ _ _ _ S g) kd34_15.2.2.2.2.2.2.2.2.1 rfl rfl (by simp [Value.category]) (by decide) (by decide) (by decide) (by decide) (fun r80 S82 g81 pr80 qr80 hg81 => ?_)
      obtain ⟨rfl, rfl, z83, rfl, lz83, uz83⟩ := pr80
      refine X_st [.int (iI z83), .int (iI z58)] rfl ?_
      refine X_icmp_ge hK 91 (by omega) (by omega) kd34_15.2.2.2.2.2.2.2.2.2.1 (by decide) (fun c84 => ?_) (fun c84 => ?_)
      · refine X_bipush hK kd34_18.2.2.2.2.2.2.2.2.2.1 (by decide) ?_
        exact hret _ _ _ _ _ _ _ kd34_18.2.2.2.2.2.2.2.2.2.2 ⟨rfl, rfl, 22, rfl, (by omega), (by omega), (by rw [← v78]; exact (xwf.en (by omega)).symm)⟩ (Nat.le_refl _) (Nat.le_refl _)
      · refine X_ldcS hK kd34_15.2.2.2.2.2.2.2.2.2.2.1 ?_
        refine X_iload hK (i := 5) 0 kd34_15.2.2.2.2.2.2.2.2.2.2.2 rfl ?_
        refine X_callVs hK [.int (iI z58)] [] lk_X7_105 rfl (c3_charAt _ _ _ _ _ S g z58 (by omega)) kd34_16.1 rfl rfl (by simp [Value.category]) (by decide) (by decide) (by decide) (by decide) (fun r85 S87 g86 pr85 qr85 hg86 => ?_)
        obtain ⟨rfl, rfl, z88, rfl, lz88, uz88, k89⟩ := pr85
        refine X_st [.int (iI z88)] rfl ?_
        refine X_istore hK (i := 6) [(6, .int (iI z88)), (5, .int (iI z58)), (4, .int (iI z59)), (3, .int (iI z60)), (0, .ref a0), (1, .int (iI x1)), (2, .int (iI x2))] kd34_16.2.1 (by decide) rfl ?_
        refine X_iload hK (i := 6) 0 kd34_16.2.2.1 rfl ?_
        refine X_bipush hK kd34_16.2.2.2.1 (by decide) ?_
        refine X_icmp_ne hK 51 (by omega) (by omega) kd34_16.2.2.2.2.1 (by decide) (fun c90 => ?_) (fun c90 => ?_)
        · refine X_iload hK (i := 4) 2 kd34_17.2.2.1 rfl ?_
          refine X_if_lt hK 82 (by omega) kd34_17.2.2.2.1 (by decide) (fun c91 => ?_) (fun c91 => ?_)
          · refine X_iconst hK kd34_18.2.2.2.2.2.1 ?_
            refine X_istore hK (i := 4) [(4, .int (iI (-1))), (6, .int (iI z88)), (5, .int (iI z58)), (3, .int (iI z60)), (0, .ref a0), (1, .int (iI x1)), (2, .int (iI x2))] kd34_18.2.2.2.2.2.2.1 (by decide) rfl ?_
            refine X_iinc hK (i := 5) (z := z58) (n := 1) 2 [(5, .int (iI (z58 + 1))), (4, .int (iI (-1))), (6, .int (iI z88)), (3, .int (iI z60)), (0, .ref a0), (1, .int (iI x1)), (2, .int (iI x2))] kd34_18.2.2.2.2.2.2.2.1 rfl (by decide) rfl ?_
            refine X_goto hK 8 kd34_18.2.2.2.2.2.2.2.2.1 (by decide) ?_
            refine X_lv [(5, .int (iI (z58 + 1))), (4, .int (iI (-1))), (3, .int (iI z60)), (0, .ref a0), (1, .int (iI x1)), (2, .int (iI x2))] [0, 1, 3, 4, 5, 6] rfl ?_
            exact ihP77  (z58 + 1) (by omega) (by omega) (-1) (by omega) (by omega) z60 (by omega) (by omega) (by have h9 := v78; rw [xwf.lt (by omega) k89 (by omega), if_neg (fun q9 => by have h8 := q9.2.2; omega)] at h9; exact h9) (xwi.lt v79 (by omega) k89 (by omega)) (by omega)
          · refine X_iload hK (i := 4) 2 kd34_17.2.2.2.2.1 rfl ?_
            refine X_iloadn hK (i := 2) 6 kd34_17.2.2.2.2.2.1 rfl rfl ?_
            refine X_icmp_ge hK 82 (by omega) (by omega) kd34_17.2.2.2.2.2.2.1 (by decide) (fun c92 => ?_) (fun c92 => ?_)
            · refine X_iconst hK kd34_18.2.2.2.2.2.1 ?_
              refine X_istore hK (i := 4) [(4, .int (iI (-1))), (6, .int (iI z88)), (5, .int (iI z58)), (3, .int (iI z60)), (0, .ref a0), (1, .int (iI x1)), (2, .int (iI x2))] kd34_18.2.2.2.2.2.2.1 (by decide) rfl ?_
              refine X_iinc hK (i := 5) (z := z58) (n := 1) 2 [(5, .int (iI (z58 + 1))), (4, .int (iI (-1))), (6, .int (iI z88)), (3, .int (iI z60)), (0, .ref a0), (1, .int (iI x1)), (2, .int (iI x2))] kd34_18.2.2.2.2.2.2.2.1 rfl (by decide) rfl ?_
              refine X_goto hK 8 kd34_18.2.2.2.2.2.2.2.2.1 (by decide) ?_
              refine X_lv [(5, .int (iI (z58 + 1))), (4, .int (iI (-1))), (3, .int (iI z60)), (0, .ref a0), (1, .int (iI x1)), (2, .int (iI x2))] [0, 1, 3, 4, 5, 6] rfl ?_
              exact ihP77  (z58 + 1) (by omega) (by omega) (-1) (by omega) (by omega) z60 (by omega) (by omega) (by have h9 := v78; rw [xwf.lt (by omega) k89 (by omega), if_neg (fun q9 => by have h8 := q9.2.2; omega)] at h9; exact h9) (xwi.lt v79 (by omega) k89 (by omega)) (by omega)
            · refine X_aloadn hK (i := 0) 4 kd34_17.2.2.2.2.2.2.2.1 rfl rfl ?_
              refine X_getK hK fl_X7_70_10 hs_a0 efb kd34_17.2.2.2.2.2.2.2.2.1 ?_
              refine X_iloadn hK (i := 1) 5 kd34_17.2.2.2.2.2.2.2.2.2.1 rfl rfl ?_
              refine X_iload hK (i := 4) 2 kd34_17.2.2.2.2.2.2.2.2.2.2.1 rfl ?_
              refine X_iadd hK kd34_17.2.2.2.2.2.2.2.2.2.2.2 ?_
              refine X_iald hK hs_fb (by decide) sl_13500 (by omega) (by omega) kd34_18.1 (fun z93 ez93 lz93 uz93 => ?_)
              have hb94 : xv g fb (x1 + z59) = z93 := (xv_e (j := (x1 + z59)) ez93 (by omega))
              refine X_iload hK (i := 6) 0 kd34_18.2.1 rfl ?_
              refine X_icmp_ne hK 82 (by omega) (by omega) kd34_18.2.2.1 (by decide) (fun c95 => ?_) (fun c95 => ?_)
              · refine X_iconst hK kd34_18.2.2.2.2.2.1 ?_
                refine X_istore hK (i := 4) [(4, .int (iI (-1))), (6, .int (iI z88)), (5, .int (iI z58)), (3, .int (iI z60)), (0, .ref a0), (1, .int (iI x1)), (2, .int (iI x2))] kd34_18.2.2.2.2.2.2.1 (by decide) rfl ?_
                refine X_iinc hK (i := 5) (z := z58) (n := 1) 2 [(5, .int (iI (z58 + 1))), (4, .int (iI (-1))), (6, .int (iI z88)), (3, .int (iI z60)), (0, .ref a0), (1, .int (iI x1)), (2, .int (iI x2))] kd34_18.2.2.2.2.2.2.2.1 rfl (by decide) rfl ?_
                refine X_goto hK 8 kd34_18.2.2.2.2.2.2.2.2.1 (by decide) ?_
                refine X_lv [(5, .int (iI (z58 + 1))), (4, .int (iI (-1))), (3, .int (iI z60)), (0, .ref a0), (1, .int (iI x1)), (2, .int (iI x2))] [0, 1, 3, 4, 5, 6] rfl ?_
                exact ihP77  (z58 + 1) (by omega) (by omega) (-1) (by omega) (by omega) z60 (by omega) (by omega) (by have h9 := v78; rw [xwf.lt (by omega) k89 (by omega), if_neg (fun q9 => by have h8 := q9.2.2; rw [hb94] at h8; omega)] at h9; exact h9) (xwi.lt v79 (by omega) k89 (by omega)) (by omega)
              · refine X_iinc hK (i := 4) (z := z59) (n := 1) 2 [(4, .int (iI (z59 + 1))), (6, .int (iI z88)), (5, .int (iI z58)), (3, .int (iI z60)), (0, .ref a0), (1, .int (iI x1)), (2, .int (iI x2))] kd34_18.2.2.2.1 rfl (by decide) rfl ?_
                refine X_goto hK 85 kd34_18.2.2.2.2.1 (by decide) ?_
                refine X_iinc hK (i := 5) (z := z58) (n := 1) 2 [(5, .int (iI (z58 + 1))), (4, .int (iI (z59 + 1))), (6, .int (iI z88)), (3, .int (iI z60)), (0, .ref a0), (1, .int (iI x1)), (2, .int (iI x2))] kd34_18.2.2.2.2.2.2.2.1 rfl (by decide) rfl ?_
                refine X_goto hK 8 kd34_18.2.2.2.2.2.2.2.2.1 (by decide) ?_
                refine X_lv [(5, .int (iI (z58 + 1))), (4, .int (iI (z59 + 1))), (3, .int (iI z60)), (0, .ref a0), (1, .int (iI x1)), (2, .int (iI x2))] [0, 1, 3, 4, 5, 6] rfl ?_
                exact ihP77  (z58 + 1) (by omega) (by omega) (z59 + 1) (by omega) (by omega) z60 (by omega) (by omega) (by have h9 := v78; rw [xwf.lt (by omega) k89 (by omega), if_pos ⟨by omega, by omega, (by rw [hb94]; omega)⟩] at h9; exact h9) (xwi.lt v79 (by omega) k89 (by omega)) (by omega)
        · refine X_iload hK (i := 4) 2 kd34_16.2.2.2.2.2.1 rfl ?_
          refine X_iloadn hK (i := 2) 6 kd34_16.2.2.2.2.2.2.1 rfl rfl ?_
          refine X_icmp_ne hK 42 (by omega) (by omega) kd34_16.2.2.2.2.2.2.2.1 (by decide) (fun c96 => ?_) (fun c96 => ?_)
          · refine X_iinc hK (i := 3) (z := z60) (n := 1) 3 [(3, .int (iI (z60 + 1))), (6, .int (iI z88)), (5, .int (iI z58)), (4, .int (iI z59)), (0, .ref a0), (1, .int (iI x1)), (2, .int (iI x2))] kd34_16.2.2.2.2.2.2.2.2.2.2.1 rfl (by decide) rfl ?_
            have hw97 := xwi.b (xwi.sp v79 (by omega) k89 (by omega))
            refine X_iconst hK kd34_16.2.2.2.2.2.2.2.2.2.2.2 ?_
            refine X_istore hK (i := 4) [(4, .int (iI 0)), (3, .int (iI (z60 + 1))), (6, .int (iI z88)), (5, .int (iI z58)), (0, .ref a0), (1, .int (iI x1)), (2, .int (iI x2))] kd34_17.1 (by decide) rfl ?_
            refine X_goto hK 85 kd34_17.2.1 (by decide) ?_
            refine X_iinc hK (i := 5) (z := z58) (n := 1) 3 [(5, .int (iI (z58 + 1))), (4, .int (iI 0)), (3, .int (iI (z60 + 1))), (6, .int (iI z88)), (0, .ref a0), (1, .int (iI x1)), (2, .int (iI x2))] kd34_18.2.2.2.2.2.2.2.1 rfl (by decide) rfl ?_
            refine X_goto hK 8 kd34_18.2.2.2.2.2.2.2.2.1 (by decide) ?_
            refine X_lv [(5, .int (iI (z58 + 1))), (4, .int (iI 0)), (3, .int (iI (z60 + 1))), (0, .ref a0), (1, .int (iI x1)), (2, .int (iI x2))] [0, 1, 2, 4, 5, 6] rfl ?_
            exact ihP77  (z58 + 1) (by omega) (by omega) 0 (by omega) (by omega) (z60 + 1) (by omega) (by omega) (by have h9 := v78; rw [xwf.sp (by omega) k89 (by omega), if_neg (by omega)] at h9; exact h9) (xwi.sp v79 (by omega) k89 (by omega)) (by omega)
          · refine X_iloadn hK (i := 3) 3 kd34_16.2.2.2.2.2.2.2.2.1 rfl rfl ?_
            exact hret _ _ _ _ _ _ _ kd34_16.2.2.2.2.2.2.2.2.2.1 ⟨rfl, rfl, z60, rfl, (by omega), (by omega), (by rw [← v78, xwf.sp (by omega) k89 (by omega), if_pos (by omega)])⟩ (Nat.le_refl _) (Nat.le_refl _)
  exact P77 ((130 - 0 : Int).toNat + 1) 0 (by omega) (by omega) 0 (by omega) (by omega) 0 (by omega) (by omega) rfl xwi.z (by omega)

set_option maxHeartbeats 4000000 in
set_option maxRecDepth 100000 in
theorem c3_nameToken (l : Launch) (D : va_G) (kA : Nat → ClassId) (b0 : Nat) (t0 : Nat → Nat) (S : xT) (g : xG) (a0 : Nat) (x1 : Int) (x2 : Int) (fb : Nat) (hs_a0 : S a0 = some (10, 0)) (hx1 : 0 ≤ x1 ∧ x1 ≤ 419) (hx2 : 1 ≤ x2 ∧ x2 ≤ 420) (efb : g a0 0 = .ref fb) (hs_fb : S fb = some (13500, 420)) (hp0 : x1 < x2) : xMt l yX7_nameToken cX7_nameToken 6 (some .int) 5 0 0 111 D kA b0 t0 [] [.ref a0, .int (iI x1), .int (iI x2)] S g (fun (r : Option Value) (S1 : xT) (g1 : xG) => S = S1 ∧ g = g1 ∧ ∃ z : Int, r = some (.int (iI z)) ∧ 0 ≤ z ∧ z ≤ 10099 ∧ (z = xnc (xv g fb) x1 x2)) := by
  refine xEnterI (by decide) (by simp [lg_sl, Value.category]) [(0, .ref a0), (1, .int (iI x1)), (2, .int (iI x2))] rfl ?_
  intro K E hK hret _ _ _
  refine X_iconst hK kd34_0.1 ?_
  refine X_istoren hK (i := 3) [(3, .int (iI 0)), (0, .ref a0), (1, .int (iI x1)), (2, .int (iI x2))] kd34_0.2.1 rfl (by decide) rfl ?_
  refine X_iconst hK kd34_0.2.2.1 ?_
  refine X_istore hK (i := 4) [(4, .int (iI 0)), (3, .int (iI 0)), (0, .ref a0), (1, .int (iI x1)), (2, .int (iI x2))] kd34_0.2.2.2.1 (by decide) rfl ?_
  refine X_iloadn hK (i := 1) 3 kd34_0.2.2.2.2.1 rfl rfl ?_
  refine X_istore hK (i := 5) [(5, .int (iI x1)), (4, .int (iI 0)), (3, .int (iI 0)), (0, .ref a0), (1, .int (iI x1)), (2, .int (iI x2))] kd34_0.2.2.2.2.2.1 (by decide) rfl ?_
  have P81 : ∀ (nP81 : Nat) (z61 : Int) (_ : 0 ≤ z61) (_ : z61 ≤ 420) (z62 : Int) (_ : 0 ≤ z62) (_ : z62 ≤ 9999) (z63 : Int) (_ : 0 ≤ z63) (_ : z63 ≤ 420) (_ : z63 = (xdg (xv g fb) x1 (z61 - x1).toNat).1) (_ : z62 = (xdg (xv g fb) x1 (z61 - x1).toNat).2) (_ : z63 ≤ z61 - x1 ∧ x1 ≤ z61 ∧ z61 ≤ x2) (_ : (z63 = 0 ∧ z62 = 0) ∨ (z63 = 1 ∧ z62 ≤ 9) ∨ (z63 = 2 ∧ z62 ≤ 99) ∨ (z63 = 3 ∧ z62 ≤ 999) ∨ (4 ≤ z63 ∧ z62 ≤ 9999)) (_ : 420 - z61 < (nP81 : Int)), X K E 8 [(5, .int (iI z61)), (4, .int (iI z62)), (3, .int (iI z63)), (0, .ref a0), (1, .int (iI x1)), (2, .int (iI x2))] [] S g 0 0 := by
    intro nP81
    induction nP81 with
    | zero => intro z61 lz61 uz61 z62 lz62 uz62 z63 lz63 uz63 v82 v83 v84 v85 mP81; exact False.elim (by omega)
    | succ nP81 ihP81 =>
      intro z61 lz61 uz61 z62 lz62 uz62 z63 lz63 uz63 v82 v83 v84 v85 mP81
      refine X_iload hK (i := 5) 0 kd34_0.2.2.2.2.2.2.1 rfl ?_
      refine X_iloadn hK (i := 2) 5 kd34_0.2.2.2.2.2.2.2.1 rfl rfl ?_
      refine X_icmp_ge hK 64 (by omega) (by omega) kd34_0.2.2.2.2.2.2.2.2.1 (by decide) (fun c86 => ?_) (fun c86 => ?_)
      · refine X_iloadn hK (i := 3) 2 kd34_2.2.2.2.2.2.2.2.2.2.2.1 rfl rfl ?_
        refine X_iloadn hK (i := 2) 5 kd34_2.2.2.2.2.2.2.2.2.2.2.2 rfl rfl ?_
        refine X_iloadn hK (i := 1) 4 kd34_3.1 rfl rfl ?_
        refine X_isub hK kd34_3.2.1 ?_
        refine X_icmp_ne hK 87 (by omega) (by omega) kd34_3.2.2.1 (by decide) (fun c87 => ?_) (fun c87 => ?_)
        · refine X_iloadn hK (i := 3) 2 kd34_4.1 rfl rfl ?_
          refine X_if_ne hK 102 (by omega) kd34_4.2.1 (by decide) (fun c88 => ?_) (fun c88 => ?_)
          · refine X_bipush hK kd34_4.2.2.2.2.2.2.2.2.2.1 (by decide) ?_
            exact hret _ _ _ _ _ _ _ kd34_4.2.2.2.2.2.2.2.2.2.2.1 ⟨rfl, rfl, 22, rfl, (by omega), (by omega), (by unfold xnc; rw [show x2 - x1 = z61 - x1 by omega]; rw [← v82]; first | rw [if_pos (by omega), if_neg (by omega)] | rw [if_neg (by omega), if_neg (by omega)])⟩ (Nat.le_refl _) (Nat.le_refl _)
          · refine X_aloadn hK (i := 0) 3 kd34_4.2.2.1 rfl rfl ?_
            refine X_iloadn hK (i := 1) 4 kd34_4.2.2.2.1 rfl rfl ?_
            refine X_iloadn hK (i := 2) 5 kd34_4.2.2.2.2.1 rfl rfl ?_
            refine X_iloadn hK (i := 1) 4 kd34_4.2.2.2.2.2.1 rfl rfl ?_
            refine X_isub hK kd34_4.2.2.2.2.2.2.1 ?_
            refine X_callS hK [.ref a0, .int (iI x1), .int (iI (x2 - x1))] [] lk_X7_95 (c3_wordToken _ _ _ _ _ S g a0 x1 (x2 - x1) fb hs_a0 (by omega) (by omega) efb hs_fb (by omega)) kd34_4.2.2.2.2.2.2.2.1 rfl rfl (by simp [Value.category]) (by decide) (by decide) (by decide) (by decide) (fun r89 S91 g90 pr89 qr89 hg90 => ?_)
            obtain ⟨rfl, rfl, z92, rfl, lz92, uz92, k93⟩ := pr89
            refine X_st [.int (iI z92)] rfl ?_
            refine X_goto hK 104 kd34_4.2.2.2.2.2.2.2.2.1 (by decide) ?_
            exact hret _ _ _ _ _ _ _ kd34_4.2.2.2.2.2.2.2.2.2.2.1 ⟨rfl, rfl, z92, rfl, (by omega), (by omega), (by unfold xnc; rw [show (xdg (xv g fb) x1 (x2 - x1).toNat).1 = 0 from by rw [show x2 - x1 = z61 - x1 by omega, ← v82]; omega, if_neg (by omega), if_pos rfl]; exact k93)⟩ (Nat.le_refl _) (Nat.le_refl _)
        · refine X_iloadn hK (i := 3) 2 kd34_3.2.2.2.1 rfl rfl ?_
          refine X_iconst hK kd34_3.2.2.2.2.1 ?_
          refine X_icmp_gt hK 84 (by omega) (by omega) kd34_3.2.2.2.2.2.1 (by decide) (fun c94 => ?_) (fun c94 => ?_)
          · refine X_bipush hK kd34_3.2.2.2.2.2.2.2.2.2.2.1 (by decide) ?_
            exact hret _ _ _ _ _ _ _ kd34_3.2.2.2.2.2.2.2.2.2.2.2 ⟨rfl, rfl, 22, rfl, (by omega), (by omega), (by unfold xnc; rw [show x2 - x1 = z61 - x1 by omega]; rw [← v82]; first | rw [if_pos (by omega), if_neg (by omega)] | rw [if_neg (by omega), if_neg (by omega)])⟩ (Nat.le_refl _) (Nat.le_refl _)
          · refine X_bipush hK kd34_3.2.2.2.2.2.2.1 (by decide) ?_
            refine X_iload hK (i := 4) 1 kd34_3.2.2.2.2.2.2.2.1 rfl ?_
            refine X_iadd hK kd34_3.2.2.2.2.2.2.2.2.1 ?_
            refine X_goto hK 86 kd34_3.2.2.2.2.2.2.2.2.2.1 (by decide) ?_
            exact hret _ _ _ _ _ _ _ kd34_3.2.2.2.2.2.2.2.2.2.2.2 ⟨rfl, rfl, (100 + z62), rfl, (by omega), (by omega), (by unfold xnc; rw [show x2 - x1 = z61 - x1 by omega]; rw [← v82, ← v83, if_pos (by omega), if_pos (by omega)])⟩ (Nat.le_refl _) (Nat.le_refl _)
      · refine X_aloadn hK (i := 0) 3 kd34_0.2.2.2.2.2.2.2.2.2.1 rfl rfl ?_
        refine X_getK hK fl_X7_70_10 hs_a0 efb kd34_0.2.2.2.2.2.2.2.2.2.2.1 ?_
        refine X_iload hK (i := 5) 0 kd34_0.2.2.2.2.2.2.2.2.2.2.2 rfl ?_
        refine X_iald hK hs_fb (by decide) sl_13500 (by omega) (by omega) kd34_1.1 (fun z95 ez95 lz95 uz95 => ?_)
        have hb96 : xv g fb z61 = z95 := (xv_e (j := z61) ez95 (by omega))
        refine X_callS hK [.int (iI z95)] [] lk_X7_92 (c_X7_isDigit _ _ _ _ _ S g z95 (by omega)) kd34_1.2.1 rfl rfl (by simp [Value.category]) (by decide) (by decide) (by decide) (by decide) (fun r97 S99 g98 pr97 qr97 hg98 => ?_)
        obtain ⟨rfl, rfl, z100, rfl, lz100, uz100, k101⟩ := pr97
        refine X_st [.int (iI z100)] rfl ?_
        refine X_if_eq hK 58 (by omega) kd34_1.2.2.1 (by decide) (fun c102 => ?_) (fun c102 => ?_)
        · refine X_iinc hK (i := 5) (z := z61) (n := 1) 0 [(5, .int (iI (z61 + 1))), (4, .int (iI z62)), (3, .int (iI z63)), (0, .ref a0), (1, .int (iI x1)), (2, .int (iI x2))] kd34_2.2.2.2.2.2.2.2.2.1 rfl (by decide) rfl ?_
          refine X_goto hK 8 kd34_2.2.2.2.2.2.2.2.2.2.1 (by decide) ?_
          exact ihP81  (z61 + 1) (by omega) (by omega) z62 (by omega) (by omega) z63 (by omega) (by omega) (by rw [xdg.nod (by omega) (by rw [hb96]; omega)]; exact v82) (by rw [xdg.nod (by omega) (by rw [hb96]; omega)]; exact v83) (by omega) (by omega) (by omega)
        · refine X_iinc hK (i := 3) (z := z63) (n := 1) 2 [(3, .int (iI (z63 + 1))), (5, .int (iI z61)), (4, .int (iI z62)), (0, .ref a0), (1, .int (iI x1)), (2, .int (iI x2))] kd34_1.2.2.2.1 rfl (by decide) rfl ?_
          refine X_iloadn hK (i := 3) 0 kd34_1.2.2.2.2.1 rfl rfl ?_
          refine X_iconst hK kd34_1.2.2.2.2.2.1 ?_
          refine X_icmp_gt hK 54 (by omega) (by omega) kd34_1.2.2.2.2.2.2.1 (by decide) (fun c103 => ?_) (fun c103 => ?_)
          · refine X_iload hK (i := 4) 2 kd34_2.2.2.2.2.2.2.1 rfl ?_
            refine X_istore hK (i := 4) [(4, .int (iI z62)), (3, .int (iI (z63 + 1))), (5, .int (iI z61)), (0, .ref a0), (1, .int (iI x1)), (2, .int (iI x2))] kd34_2.2.2.2.2.2.2.2.1 (by decide) rfl ?_
            refine X_iinc hK (i := 5) (z := z61) (n := 1) 2 [(5, .int (iI (z61 + 1))), (4, .int (iI z62)), (3, .int (iI (z63 + 1))), (0, .ref a0), (1, .int (iI x1)), (2, .int (iI x2))] kd34_2.2.2.2.2.2.2.2.2.1 rfl (by decide) rfl ?_
            refine X_goto hK 8 kd34_2.2.2.2.2.2.2.2.2.2.1 (by decide) ?_
            exact ihP81  (z61 + 1) (by omega) (by omega) z62 (by omega) (by omega) (z63 + 1) (by omega) (by omega) ((xdg.dig (by omega) (by rw [hb96]; omega) v82 v83).1) (by have h9 := (xdg.dig (by omega) (by rw [hb96]; omega) v82 v83).2; rw [hb96] at h9; first | (rw [if_pos (by omega)] at h9; omega) | (rw [if_neg (by omega)] at h9; omega)) (by omega) (by omega) (by omega)
          · refine X_iload hK (i := 4) 2 kd34_1.2.2.2.2.2.2.2.1 rfl ?_
            refine X_bipush hK kd34_1.2.2.2.2.2.2.2.2.1 (by decide) ?_
            refine X_imul hK kd34_1.2.2.2.2.2.2.2.2.2.1 ?_
            refine X_aloadn hK (i := 0) 3 kd34_1.2.2.2.2.2.2.2.2.2.2.1 rfl rfl ?_
            refine X_getK hK fl_X7_70_10 hs_a0 efb kd34_1.2.2.2.2.2.2.2.2.2.2.2 ?_
            refine X_iload hK (i := 5) 1 kd34_2.1 rfl ?_
            refine X_ialdK hK hs_fb (by decide) (by omega) (by omega) ez95 kd34_2.2.1 ?_
            refine X_iadd hK kd34_2.2.2.1 ?_
            refine X_bipush hK kd34_2.2.2.2.1 (by decide) ?_
            refine X_isub hK kd34_2.2.2.2.2.1 ?_
            refine X_goto hK 56 kd34_2.2.2.2.2.2.1 (by decide) ?_
            refine X_istore hK (i := 4) [(4, .int (iI (((z62 * 10) + z95) - 48))), (3, .int (iI (z63 + 1))), (5, .int (iI z61)), (0, .ref a0), (1, .int (iI x1)), (2, .int (iI x2))] kd34_2.2.2.2.2.2.2.2.1 (by decide) rfl ?_
            refine X_iinc hK (i := 5) (z := z61) (n := 1) 2 [(5, .int (iI (z61 + 1))), (4, .int (iI (((z62 * 10) + z95) - 48))), (3, .int (iI (z63 + 1))), (0, .ref a0), (1, .int (iI x1)), (2, .int (iI x2))] kd34_2.2.2.2.2.2.2.2.2.1 rfl (by decide) rfl ?_
            refine X_goto hK 8 kd34_2.2.2.2.2.2.2.2.2.2.1 (by decide) ?_
            exact ihP81  (z61 + 1) (by omega) (by omega) (((z62 * 10) + z95) - 48) (by omega) (by omega) (z63 + 1) (by omega) (by omega) ((xdg.dig (by omega) (by rw [hb96]; omega) v82 v83).1) (by have h9 := (xdg.dig (by omega) (by rw [hb96]; omega) v82 v83).2; rw [hb96] at h9; first | (rw [if_pos (by omega)] at h9; omega) | (rw [if_neg (by omega)] at h9; omega)) (by omega) (by omega) (by omega)
  exact P81 ((420 - x1 : Int).toNat + 1) x1 (by omega) (by omega) 0 (by omega) (by omega) 0 (by omega) (by omega) (by rw [Int.sub_self]; rfl) (by rw [Int.sub_self]; rfl) (by omega) (by omega) (by omega)

set_option maxHeartbeats 4000000 in
set_option maxRecDepth 100000 in
theorem c3_scan (l : Launch) (D : va_G) (kA : Nat → ClassId) (b0 : Nat) (t0 : Nat → Nat) (S : xT) (g : xG) (a0 : Nat) (a1 : Nat) (wt : Nat) (wp : Nat) (fb : Nat) (tn : Int) (hs_a0 : S a0 = some (8, 0)) (hs_a1 : S a1 = some (10, 0)) (ewt : g a0 0 = .ref wt) (hs_wt : S wt = some (12900, 301)) (ewp : g a0 1 = .ref wp) (hs_wp : S wp = some (13000, 301)) (efb : g a1 0 = .ref fb) (hs_fb : S fb = some (13500, 420)) (htn : 0 ≤ tn ∧ tn ≤ 420) (etn : g a1 1 = .int (iI tn)) : xMt l yX7_scan cX7_scan 7 none 6 0 0 136 D kA b0 t0 [(12900, 0), (13000, 0)] [.ref a0, .ref a1] S g (fun (r : Option Value) (S1 : xT) (g1 : xG) => S = S1 ∧ r = none ∧ (∃ c : Int, 0 ≤ c ∧ c ≤ 300 ∧ xtk (xv g fb) tn c = 23 ∧ xTA (xv g1 wt) (xv g1 wp) (xv g fb) tn (c + 1))) := by
  refine xEnterV (by decide) (by simp [lg_sl, Value.category]) [(0, .ref a0), (1, .ref a1)] rfl ?_
  intro K E hK hret _ _ _
  refine X_aloadn hK (i := 1) 1 kd34_9.1 rfl rfl ?_
  refine X_getK hK fl_X7_55_10 hs_a1 etn kd34_9.2.1 ?_
  refine X_sipush hK kd34_9.2.2.1 (by decide) ?_
  refine X_mmin hK mm_X7_64 ⟨by decide, by simp [Value.category]⟩ (by decide) (by omega) (by omega) kd34_9.2.2.2.1 (fun z1 ez1 fz1 => ?_)
  have bz1 : 0 ≤ z1 ∧ z1 ≤ 300 := by omega
  refine X_istoren hK (i := 2) [(2, .int (iI z1)), (0, .ref a0), (1, .ref a1)] kd34_9.2.2.2.2.1 rfl (by decide) rfl ?_
  refine X_iconst hK kd34_9.2.2.2.2.2.1 ?_
  refine X_istoren hK (i := 3) [(3, .int (iI 0)), (2, .int (iI z1)), (0, .ref a0), (1, .ref a1)] kd34_9.2.2.2.2.2.2.1 rfl (by decide) rfl ?_
  refine X_iconst hK kd34_9.2.2.2.2.2.2.2.1 ?_
  refine X_istore hK (i := 4) [(4, .int (iI 0)), (3, .int (iI 0)), (2, .int (iI z1)), (0, .ref a0), (1, .ref a1)] kd34_9.2.2.2.2.2.2.2.2.1 (by decide) rfl ?_
  refine X_iconst hK kd34_9.2.2.2.2.2.2.2.2.2.1 ?_
  refine X_istore hK (i := 5) [(5, .int (iI 0)), (4, .int (iI 0)), (3, .int (iI 0)), (2, .int (iI z1)), (0, .ref a0), (1, .ref a1)] kd34_9.2.2.2.2.2.2.2.2.2.2.1 (by decide) rfl ?_
  have P316 : ∀ (nP316 : Nat) (g256 : xG) (_ : xM [(13000, 0), (12900, 0)] S g g256) (z253 : Int) (_ : 0 ≤ z253) (_ : z253 ≤ 300) (z254 : Int) (_ : 0 ≤ z254) (_ : z254 ≤ 420) (z255 : Int) (_ : 0 ≤ z255) (_ : z255 ≤ 300) (_ : xskp (xv g fb) tn (xmx9 z254 z253) = xtp (xv g fb) tn z255.toNat) (_ : xTA (xv g256 wt) (xv g256 wp) (xv g fb) tn z255) (_ : z255 ≤ z253) (_ : 400 - z253 < (nP316 : Int)), X K E 19 [(5, .int (iI z253)), (4, .int (iI z254)), (3, .int (iI z255)), (2, .int (iI z1)), (0, .ref a0), (1, .ref a1)] [] S g256 0 0 := by
    intro nP316
    induction nP316 with
    | zero => intro g256 hg256 z253 lz253 uz253 z254 lz254 uz254 z255 lz255 uz255 v317 v318 v319 mP316; exact False.elim (by omega)
    | succ nP316 ihP316 =>
      intro g256 hg256 z253 lz253 uz253 z254 lz254 uz254 z255 lz255 uz255 v317 v318 v319 mP316
      refine X_iload hK (i := 5) 0 kd34_9.2.2.2.2.2.2.2.2.2.2.2 rfl ?_
      refine X_iloadn hK (i := 2) 3 kd34_10.1 rfl rfl ?_
      refine X_icmp_ge hK 125 (by omega) (by omega) kd34_10.2.1 (by decide) (fun c320 => ?_) (fun c320 => ?_)
      · refine X_aloadn hK (i := 0) 4 kd34_14.2.1 rfl rfl ?_
        refine X_getK hK fl_X7_9_8 hs_a0 ((hg256 a0 8 0 0 hs_a0 (by decide)).trans ewt) kd34_14.2.2.1 ?_
        refine X_iloadn hK (i := 3) 2 kd34_14.2.2.2.1 rfl rfl ?_
        refine X_bipush hK kd34_14.2.2.2.2.1 (by decide) ?_
        refine X_iast hK hs_wt (by decide) (by decide) sl_12900 (by omega) (by omega) (by omega) (by omega) kd34_14.2.2.2.2.2.1 (fun g321 hg321 => ?_)
        refine X_aloadn hK (i := 0) 4 kd34_14.2.2.2.2.2.2.1 rfl rfl ?_
        refine X_getK hK fl_X7_15_8 hs_a0 ((xs_a hg321 (xne hs_a0 hs_wt (by decide))).trans ((hg256 a0 8 0 1 hs_a0 (by decide)).trans ewp)) kd34_14.2.2.2.2.2.2.2.1 ?_
        refine X_iloadn hK (i := 3) 2 kd34_14.2.2.2.2.2.2.2.2.1 rfl rfl ?_
        refine X_iloadn hK (i := 2) 3 kd34_14.2.2.2.2.2.2.2.2.2.1 rfl rfl ?_
        refine X_iast hK hs_wp (by decide) (by decide) sl_13000 (by omega) (by omega) (by omega) (by omega) kd34_14.2.2.2.2.2.2.2.2.2.2.1 (fun g322 hg322 => ?_)
        exact hret _ _ _ _ _ _ kd34_14.2.2.2.2.2.2.2.2.2.2.2 ⟨rfl, rfl, ⟨z255, by omega, by omega, (xsc.end v317 (by omega)).1, by rw [show z255 + 1 = z255 + 1 from rfl]; exact (xTA.add v318 (by omega) (show xv g322 wt z255 = 23 from by rw [(xv_a hg322 (xne hs_wt hs_wp (by decide))), xv_s hg321 (by omega)]) (fun i9 hi9 h09 => (show xv g322 wt i9 = xv g256 wt i9 from by rw [(xv_a hg322 (xne hs_wt hs_wp (by decide))), (xv_k (i := i9) hg321 (by omega) (by omega) (by omega))])) (show xv g322 wp z255 = z1 from by rw [xv_s hg322 (by omega)]) (fun i9 hi9 h09 => (show xv g322 wp i9 = xv g256 wp i9 from by rw [(xv_k (i := i9) hg322 (by omega) (by omega) (by omega)), (xv_a hg321 (xne hs_wp hs_wt (by decide)))])) (xsc.end v317 (by omega)).1.symm (by rw [(xsc.end v317 (by omega)).2]; (split <;> omega)))⟩⟩ (Nat.le_refl _) (Nat.le_refl _)
      · refine X_aloadn hK (i := 1) 5 kd34_10.2.2.1 rfl rfl ?_
        refine X_getK hK fl_X7_70_10 hs_a1 ((hg256 a1 10 0 0 hs_a1 (by decide)).trans efb) kd34_10.2.2.2.1 ?_
        refine X_iload hK (i := 5) 0 kd34_10.2.2.2.2.1 rfl ?_
        refine X_iald hK hs_fb (by decide) sl_13500 (by omega) (by omega) kd34_10.2.2.2.2.2.1 (fun z323 ez323 lz323 uz323 => ?_)
        have hb324 : xv g fb z253 = z323 := (by rw [← (xv_m hg256 hs_fb (by decide) (by decide))]; exact (xv_e (j := z253) ez323 (by omega)))
        refine X_istore hK (i := 6) [(6, .int (iI z323)), (5, .int (iI z253)), (4, .int (iI z254)), (3, .int (iI z255)), (2, .int (iI z1)), (0, .ref a0), (1, .ref a1)] kd34_10.2.2.2.2.2.2.1 (by decide) rfl ?_
        refine X_iload hK (i := 5) 1 kd34_10.2.2.2.2.2.2.2.1 rfl ?_
        refine X_iload hK (i := 4) 2 kd34_10.2.2.2.2.2.2.2.2.1 rfl ?_
        refine X_icmp_lt hK 119 (by omega) (by omega) kd34_10.2.2.2.2.2.2.2.2.2.1 (by decide) (fun c325 => ?_) (fun c325 => ?_)
        · refine X_iinc hK (i := 5) (z := z253) (n := 1) 1 [(5, .int (iI (z253 + 1))), (6, .int (iI z323)), (4, .int (iI z254)), (3, .int (iI z255)), (2, .int (iI z1)), (0, .ref a0), (1, .ref a1)] kd34_13.2.2.2.2.2.2.2.2.2.2.2 rfl (by decide) rfl ?_
          refine X_goto hK 19 kd34_14.1 (by decide) ?_
          refine X_lv [(5, .int (iI (z253 + 1))), (4, .int (iI z254)), (3, .int (iI z255)), (2, .int (iI z1)), (0, .ref a0), (1, .ref a1)] [0, 2, 3, 4, 5, 6] rfl ?_
          exact ihP316  g256 (xM.tr xM.rf xLe.rf hg256 (by decide)) (z253 + 1) (by omega) (by omega) z254 (by omega) (by omega) z255 (by omega) (by omega) (by first | exact xsc.in v317 (by omega) | exact xsc.sp v317 (by omega) (by omega) (by rw [hb324]; omega)) v318 (by omega) (by omega)
        · refine X_iload hK (i := 6) 0 kd34_10.2.2.2.2.2.2.2.2.2.2.1 rfl ?_
          refine X_bipush hK kd34_10.2.2.2.2.2.2.2.2.2.2.2 (by decide) ?_
          refine X_icmp_eq hK 119 (by omega) (by omega) kd34_11.1 (by decide) (fun c326 => ?_) (fun c326 => ?_)
          · refine X_iinc hK (i := 5) (z := z253) (n := 1) 1 [(5, .int (iI (z253 + 1))), (6, .int (iI z323)), (4, .int (iI z254)), (3, .int (iI z255)), (2, .int (iI z1)), (0, .ref a0), (1, .ref a1)] kd34_13.2.2.2.2.2.2.2.2.2.2.2 rfl (by decide) rfl ?_
            refine X_goto hK 19 kd34_14.1 (by decide) ?_
            refine X_lv [(5, .int (iI (z253 + 1))), (4, .int (iI z254)), (3, .int (iI z255)), (2, .int (iI z1)), (0, .ref a0), (1, .ref a1)] [0, 2, 3, 4, 5, 6] rfl ?_
            exact ihP316  g256 (xM.tr xM.rf xLe.rf hg256 (by decide)) (z253 + 1) (by omega) (by omega) z254 (by omega) (by omega) z255 (by omega) (by omega) (by first | exact xsc.in v317 (by omega) | exact xsc.sp v317 (by omega) (by omega) (by rw [hb324]; omega)) v318 (by omega) (by omega)
          · refine X_iload hK (i := 6) 0 kd34_11.2.1 rfl ?_
            refine X_bipush hK kd34_11.2.2.1 (by decide) ?_
            refine X_icmp_eq hK 119 (by omega) (by omega) kd34_11.2.2.2.1 (by decide) (fun c327 => ?_) (fun c327 => ?_)
            · refine X_iinc hK (i := 5) (z := z253) (n := 1) 1 [(5, .int (iI (z253 + 1))), (6, .int (iI z323)), (4, .int (iI z254)), (3, .int (iI z255)), (2, .int (iI z1)), (0, .ref a0), (1, .ref a1)] kd34_13.2.2.2.2.2.2.2.2.2.2.2 rfl (by decide) rfl ?_
              refine X_goto hK 19 kd34_14.1 (by decide) ?_
              refine X_lv [(5, .int (iI (z253 + 1))), (4, .int (iI z254)), (3, .int (iI z255)), (2, .int (iI z1)), (0, .ref a0), (1, .ref a1)] [0, 2, 3, 4, 5, 6] rfl ?_
              exact ihP316  g256 (xM.tr xM.rf xLe.rf hg256 (by decide)) (z253 + 1) (by omega) (by omega) z254 (by omega) (by omega) z255 (by omega) (by omega) (by first | exact xsc.in v317 (by omega) | exact xsc.sp v317 (by omega) (by omega) (by rw [hb324]; omega)) v318 (by omega) (by omega)
            · refine X_iload hK (i := 6) 0 kd34_11.2.2.2.2.1 rfl ?_
              refine X_callS hK [.int (iI z323)] [] lk_X7_73 (c_X7_isOfName _ _ _ _ _ S g256 z323 (by omega)) kd34_11.2.2.2.2.2.1 rfl rfl (by simp [Value.category]) (by decide) (by decide) (by decide) (by decide) (fun r328 S330 g329 pr328 qr328 hg329 => ?_)
              obtain ⟨rfl, rfl, z331, rfl, lz331, uz331, k332⟩ := pr328
              refine X_st [.int (iI z331)] rfl ?_
              refine X_if_eq hK 72 (by omega) kd34_11.2.2.2.2.2.2.1 (by decide) (fun c333 => ?_) (fun c333 => ?_)
              · refine X_iload hK (i := 5) 1 kd34_11.2.2.2.2.2.2.2.2.2.2.2 rfl ?_
                refine X_iconst hK kd34_12.1 ?_
                refine X_iadd hK kd34_12.2.1 ?_
                refine X_istore hK (i := 4) [(4, .int (iI (z253 + 1))), (6, .int (iI z323)), (5, .int (iI z253)), (3, .int (iI z255)), (2, .int (iI z1)), (0, .ref a0), (1, .ref a1)] kd34_12.2.2.1 (by decide) rfl ?_
                refine X_aloadn hK (i := 0) 5 kd34_12.2.2.2.1 rfl rfl ?_
                refine X_getK hK fl_X7_9_8 hs_a0 ((hg256 a0 8 0 0 hs_a0 (by decide)).trans ewt) kd34_12.2.2.2.2.1 ?_
                refine X_iloadn hK (i := 3) 3 kd34_12.2.2.2.2.2.1 rfl rfl ?_
                refine X_iload hK (i := 6) 1 kd34_12.2.2.2.2.2.2.1 rfl ?_
                refine X_callS hK [.int (iI z323)] [.int (iI z255), .ref wt] lk_X7_73 (c_X7_isOfName _ _ _ _ _ S g256 z323 (by omega)) kd34_12.2.2.2.2.2.2.2.1 rfl rfl (by simp [Value.category]) (by decide) (by decide) (by decide) (by decide) (fun r334 S336 g335 pr334 qr334 hg335 => ?_)
                obtain ⟨rfl, rfl, z337, rfl, lz337, uz337, k338⟩ := pr334
                refine X_st [.int (iI z337), .int (iI z255), .ref wt] rfl ?_
                refine X_if_eq hK 102 (by omega) kd34_12.2.2.2.2.2.2.2.2.1 (by decide) (fun c339 => ?_) (fun c339 => ?_)
                · refine X_iload hK (i := 6) 1 kd34_13.2.2.1 rfl ?_
                  refine X_callS hK [.int (iI z323)] [.int (iI z255), .ref wt] lk_X7_85 (c3_markToken _ _ _ _ _ S g256 z323 (by omega)) kd34_13.2.2.2.1 rfl rfl (by simp [Value.category]) (by decide) (by decide) (by decide) (by decide) (fun r340 S342 g341 pr340 qr340 hg341 => ?_)
                  obtain ⟨rfl, rfl, z343, rfl, lz343, uz343, k344⟩ := pr340
                  refine X_st [.int (iI z343), .int (iI z255), .ref wt] rfl ?_
                  refine X_iast hK hs_wt (by decide) (by decide) sl_12900 (by omega) (by omega) (by omega) (by omega) kd34_13.2.2.2.2.1 (fun g345 hg345 => ?_)
                  refine X_aloadn hK (i := 0) 5 kd34_13.2.2.2.2.2.1 rfl rfl ?_
                  refine X_getK hK fl_X7_15_8 hs_a0 ((xs_a hg345 (xne hs_a0 hs_wt (by decide))).trans ((hg256 a0 8 0 1 hs_a0 (by decide)).trans ewp)) kd34_13.2.2.2.2.2.2.1 ?_
                  refine X_iloadn hK (i := 3) 3 kd34_13.2.2.2.2.2.2.2.1 rfl rfl ?_
                  refine X_iload hK (i := 5) 2 kd34_13.2.2.2.2.2.2.2.2.1 rfl ?_
                  refine X_iast hK hs_wp (by decide) (by decide) sl_13000 (by omega) (by omega) (by omega) (by omega) kd34_13.2.2.2.2.2.2.2.2.2.1 (fun g346 hg346 => ?_)
                  refine X_iinc hK (i := 3) (z := z255) (n := 1) 3 [(3, .int (iI (z255 + 1))), (4, .int (iI (z253 + 1))), (6, .int (iI z323)), (5, .int (iI z253)), (2, .int (iI z1)), (0, .ref a0), (1, .ref a1)] kd34_13.2.2.2.2.2.2.2.2.2.2.1 rfl (by decide) rfl ?_
                  refine X_iinc hK (i := 5) (z := z253) (n := 1) 3 [(5, .int (iI (z253 + 1))), (3, .int (iI (z255 + 1))), (4, .int (iI (z253 + 1))), (6, .int (iI z323)), (2, .int (iI z1)), (0, .ref a0), (1, .ref a1)] kd34_13.2.2.2.2.2.2.2.2.2.2.2 rfl (by decide) rfl ?_
                  refine X_goto hK 19 kd34_14.1 (by decide) ?_
                  refine X_lv [(5, .int (iI (z253 + 1))), (4, .int (iI (z253 + 1))), (3, .int (iI (z255 + 1))), (2, .int (iI z1)), (0, .ref a0), (1, .ref a1)] [0, 2, 1, 4, 5, 6] rfl ?_
                  exact ihP316  g346 (xM_ua (xM_ua (xM.tr xM.rf xLe.rf hg256 (by decide)) hg345 hs_wt (by decide) (by decide)) hg346 hs_wp (by decide) (by decide)) (z253 + 1) (by omega) (by omega) (z253 + 1) (by omega) (by omega) (z255 + 1) (by omega) (by omega) (xsc.go (by omega) (xsc.at v317 (by omega) (by rw [hb324]; omega)) (by rw [(xtk.mk (xsc.at v317 (by omega) (by rw [hb324]; omega)) (by omega) (by rw [hb324]; omega)).2.2]) (by omega)) (xTA.add v318 (by omega) (show xv g346 wt z255 = z343 from by rw [(xv_a hg346 (xne hs_wt hs_wp (by decide))), xv_s hg345 (by omega)]) (fun i9 hi9 h09 => (show xv g346 wt i9 = xv g256 wt i9 from by rw [(xv_a hg346 (xne hs_wt hs_wp (by decide))), (xv_k (i := i9) hg345 (by omega) (by omega) (by omega))])) (show xv g346 wp z255 = z253 from by rw [xv_s hg346 (by omega)]) (fun i9 hi9 h09 => (show xv g346 wp i9 = xv g256 wp i9 from by rw [(xv_k (i := i9) hg346 (by omega) (by omega) (by omega)), (xv_a hg345 (xne hs_wp hs_wt (by decide)))])) (by rw [(xtk.mk (xsc.at v317 (by omega) (by rw [hb324]; omega)) (by omega) (by rw [hb324]; omega)).1, hb324]; exact k344) (xtk.mk (xsc.at v317 (by omega) (by rw [hb324]; omega)) (by omega) (by rw [hb324]; omega)).2.1.symm) (by omega) (by omega)
                · refine X_aloadn hK (i := 1) 6 kd34_12.2.2.2.2.2.2.2.2.2.1 rfl rfl ?_
                  refine X_iload hK (i := 5) 2 kd34_12.2.2.2.2.2.2.2.2.2.2.1 rfl ?_
                  refine X_iload hK (i := 4) 0 kd34_12.2.2.2.2.2.2.2.2.2.2.2 rfl ?_
                  refine X_callS hK [.ref a1, .int (iI z253), .int (iI (z253 + 1))] [.int (iI z255), .ref wt] lk_X7_81 (c3_nameToken _ _ _ _ _ S g256 a1 z253 (z253 + 1) fb hs_a1 (by omega) (by omega) ((hg256 a1 10 0 0 hs_a1 (by decide)).trans efb) hs_fb (by omega)) kd34_13.1 rfl rfl (by simp [Value.category]) (by decide) (by decide) (by decide) (by decide) (fun r347 S349 g348 pr347 qr347 hg348 => ?_)
                  obtain ⟨rfl, rfl, z350, rfl, lz350, uz350, k351⟩ := pr347
                  refine X_st [.int (iI z350), .int (iI z255), .ref wt] rfl ?_
                  refine X_goto hK 107 kd34_13.2.1 (by decide) ?_
                  refine X_iast hK hs_wt (by decide) (by decide) sl_12900 (by omega) (by omega) (by omega) (by omega) kd34_13.2.2.2.2.1 (fun g352 hg352 => ?_)
                  refine X_aloadn hK (i := 0) 5 kd34_13.2.2.2.2.2.1 rfl rfl ?_
                  refine X_getK hK fl_X7_15_8 hs_a0 ((xs_a hg352 (xne hs_a0 hs_wt (by decide))).trans ((hg256 a0 8 0 1 hs_a0 (by decide)).trans ewp)) kd34_13.2.2.2.2.2.2.1 ?_
                  refine X_iloadn hK (i := 3) 3 kd34_13.2.2.2.2.2.2.2.1 rfl rfl ?_
                  refine X_iload hK (i := 5) 2 kd34_13.2.2.2.2.2.2.2.2.1 rfl ?_
                  refine X_iast hK hs_wp (by decide) (by decide) sl_13000 (by omega) (by omega) (by omega) (by omega) kd34_13.2.2.2.2.2.2.2.2.2.1 (fun g353 hg353 => ?_)
                  refine X_iinc hK (i := 3) (z := z255) (n := 1) 3 [(3, .int (iI (z255 + 1))), (4, .int (iI (z253 + 1))), (6, .int (iI z323)), (5, .int (iI z253)), (2, .int (iI z1)), (0, .ref a0), (1, .ref a1)] kd34_13.2.2.2.2.2.2.2.2.2.2.1 rfl (by decide) rfl ?_
                  refine X_iinc hK (i := 5) (z := z253) (n := 1) 3 [(5, .int (iI (z253 + 1))), (3, .int (iI (z255 + 1))), (4, .int (iI (z253 + 1))), (6, .int (iI z323)), (2, .int (iI z1)), (0, .ref a0), (1, .ref a1)] kd34_13.2.2.2.2.2.2.2.2.2.2.2 rfl (by decide) rfl ?_
                  refine X_goto hK 19 kd34_14.1 (by decide) ?_
                  refine X_lv [(5, .int (iI (z253 + 1))), (4, .int (iI (z253 + 1))), (3, .int (iI (z255 + 1))), (2, .int (iI z1)), (0, .ref a0), (1, .ref a1)] [0, 2, 1, 4, 5, 6] rfl ?_
                  exact ihP316  g353 (xM_ua (xM_ua (xM.tr xM.rf xLe.rf hg256 (by decide)) hg352 hs_wt (by decide) (by decide)) hg353 hs_wp (by decide) (by decide)) (z253 + 1) (by omega) (by omega) (z253 + 1) (by omega) (by omega) (z255 + 1) (by omega) (by omega) (False.elim (by omega)) (False.elim (by omega)) (by omega) (by omega)
              · refine X_aloadn hK (i := 1) 6 kd34_11.2.2.2.2.2.2.2.1 rfl rfl ?_
                refine X_iload hK (i := 5) 1 kd34_11.2.2.2.2.2.2.2.2.1 rfl ?_
                refine X_callS hK [.ref a1, .int (iI z253)] [] lk_X7_77 (c3_nameEnd _ _ _ _ _ S g256 a1 z253 fb tn hs_a1 (by omega) ((hg256 a1 10 0 0 hs_a1 (by decide)).trans efb) hs_fb (by omega) ((hg256 a1 10 0 1 hs_a1 (by decide)).trans etn)) kd34_11.2.2.2.2.2.2.2.2.2.1 rfl rfl (by simp [Value.category]) (by decide) (by decide) (by decide) (by decide) (fun r354 S356 g355 pr354 qr354 hg355 => ?_)
                obtain ⟨rfl, rfl, z357, rfl, lz357, uz357, k358, k359⟩ := pr354
                refine X_st [.int (iI z357)] rfl ?_
                have ne360 : z357 = xnen (xv g fb) tn z253 := (by have h7 := k359; rw [(xv_m hg256 hs_fb (by decide) (by decide))] at h7; exact h7)
                have lne360 : z253 + 1 ≤ z357 := by rw [ne360]; exact (xtk.nm (xsc.at v317 (by omega) (by rw [hb324]; omega)) (by omega) (by rw [hb324]; omega)).2.2.2
                refine X_goto hK 76 kd34_11.2.2.2.2.2.2.2.2.2.2.1 (by decide) ?_
                refine X_istore hK (i := 4) [(4, .int (iI z357)), (6, .int (iI z323)), (5, .int (iI z253)), (3, .int (iI z255)), (2, .int (iI z1)), (0, .ref a0), (1, .ref a1)] kd34_12.2.2.1 (by decide) rfl ?_
                refine X_aloadn hK (i := 0) 5 kd34_12.2.2.2.1 rfl rfl ?_
                refine X_getK hK fl_X7_9_8 hs_a0 ((hg256 a0 8 0 0 hs_a0 (by decide)).trans ewt) kd34_12.2.2.2.2.1 ?_
                refine X_iloadn hK (i := 3) 3 kd34_12.2.2.2.2.2.1 rfl rfl ?_
                refine X_iload hK (i := 6) 1 kd34_12.2.2.2.2.2.2.1 rfl ?_
                refine X_callS hK [.int (iI z323)] [.int (iI z255), .ref wt] lk_X7_73 (c_X7_isOfName _ _ _ _ _ S g256 z323 (by omega)) kd34_12.2.2.2.2.2.2.2.1 rfl rfl (by simp [Value.category]) (by decide) (by decide) (by decide) (by decide) (fun r361 S363 g362 pr361 qr361 hg362 => ?_)
                obtain ⟨rfl, rfl, z364, rfl, lz364, uz364, k365⟩ := pr361
                refine X_st [.int (iI z364), .int (iI z255), .ref wt] rfl ?_
                refine X_if_eq hK 102 (by omega) kd34_12.2.2.2.2.2.2.2.2.1 (by decide) (fun c366 => ?_) (fun c366 => ?_)
                · refine X_iload hK (i := 6) 1 kd34_13.2.2.1 rfl ?_
                  refine X_callS hK [.int (iI z323)] [.int (iI z255), .ref wt] lk_X7_85 (c3_markToken _ _ _ _ _ S g256 z323 (by omega)) kd34_13.2.2.2.1 rfl rfl (by simp [Value.category]) (by decide) (by decide) (by decide) (by decide) (fun r367 S369 g368 pr367 qr367 hg368 => ?_)
                  obtain ⟨rfl, rfl, z370, rfl, lz370, uz370, k371⟩ := pr367
                  refine X_st [.int (iI z370), .int (iI z255), .ref wt] rfl ?_
                  refine X_iast hK hs_wt (by decide) (by decide) sl_12900 (by omega) (by omega) (by omega) (by omega) kd34_13.2.2.2.2.1 (fun g372 hg372 => ?_)
                  refine X_aloadn hK (i := 0) 5 kd34_13.2.2.2.2.2.1 rfl rfl ?_
                  refine X_getK hK fl_X7_15_8 hs_a0 ((xs_a hg372 (xne hs_a0 hs_wt (by decide))).trans ((hg256 a0 8 0 1 hs_a0 (by decide)).trans ewp)) kd34_13.2.2.2.2.2.2.1 ?_
                  refine X_iloadn hK (i := 3) 3 kd34_13.2.2.2.2.2.2.2.1 rfl rfl ?_
                  refine X_iload hK (i := 5) 2 kd34_13.2.2.2.2.2.2.2.2.1 rfl ?_
                  refine X_iast hK hs_wp (by decide) (by decide) sl_13000 (by omega) (by omega) (by omega) (by omega) kd34_13.2.2.2.2.2.2.2.2.2.1 (fun g373 hg373 => ?_)
                  refine X_iinc hK (i := 3) (z := z255) (n := 1) 3 [(3, .int (iI (z255 + 1))), (4, .int (iI z357)), (6, .int (iI z323)), (5, .int (iI z253)), (2, .int (iI z1)), (0, .ref a0), (1, .ref a1)] kd34_13.2.2.2.2.2.2.2.2.2.2.1 rfl (by decide) rfl ?_
                  refine X_iinc hK (i := 5) (z := z253) (n := 1) 3 [(5, .int (iI (z253 + 1))), (3, .int (iI (z255 + 1))), (4, .int (iI z357)), (6, .int (iI z323)), (2, .int (iI z1)), (0, .ref a0), (1, .ref a1)] kd34_13.2.2.2.2.2.2.2.2.2.2.2 rfl (by decide) rfl ?_
                  refine X_goto hK 19 kd34_14.1 (by decide) ?_
                  refine X_lv [(5, .int (iI (z253 + 1))), (4, .int (iI z357)), (3, .int (iI (z255 + 1))), (2, .int (iI z1)), (0, .ref a0), (1, .ref a1)] [0, 2, 1, 4, 5, 6] rfl ?_
                  exact ihP316  g373 (xM_ua (xM_ua (xM.tr xM.rf xLe.rf hg256 (by decide)) hg372 hs_wt (by decide) (by decide)) hg373 hs_wp (by decide) (by decide)) (z253 + 1) (by omega) (by omega) z357 (by omega) (by omega) (z255 + 1) (by omega) (by omega) (False.elim (by omega)) (False.elim (by omega)) (by omega) (by omega)
                · refine X_aloadn hK (i := 1) 6 kd34_12.2.2.2.2.2.2.2.2.2.1 rfl rfl ?_
                  refine X_iload hK (i := 5) 2 kd34_12.2.2.2.2.2.2.2.2.2.2.1 rfl ?_
                  refine X_iload hK (i := 4) 0 kd34_12.2.2.2.2.2.2.2.2.2.2.2 rfl ?_
                  refine X_callS hK [.ref a1, .int (iI z253), .int (iI z357)] [.int (iI z255), .ref wt] lk_X7_81 (c3_nameToken _ _ _ _ _ S g256 a1 z253 z357 fb hs_a1 (by omega) (by omega) ((hg256 a1 10 0 0 hs_a1 (by decide)).trans efb) hs_fb (by omega)) kd34_13.1 rfl rfl (by simp [Value.category]) (by decide) (by decide) (by decide) (by decide) (fun r374 S376 g375 pr374 qr374 hg375 => ?_)
                  obtain ⟨rfl, rfl, z377, rfl, lz377, uz377, k378⟩ := pr374
                  refine X_st [.int (iI z377), .int (iI z255), .ref wt] rfl ?_
                  refine X_goto hK 107 kd34_13.2.1 (by decide) ?_
                  refine X_iast hK hs_wt (by decide) (by decide) sl_12900 (by omega) (by omega) (by omega) (by omega) kd34_13.2.2.2.2.1 (fun g379 hg379 => ?_)
                  refine X_aloadn hK (i := 0) 5 kd34_13.2.2.2.2.2.1 rfl rfl ?_
                  refine X_getK hK fl_X7_15_8 hs_a0 ((xs_a hg379 (xne hs_a0 hs_wt (by decide))).trans ((hg256 a0 8 0 1 hs_a0 (by decide)).trans ewp)) kd34_13.2.2.2.2.2.2.1 ?_
                  refine X_iloadn hK (i := 3) 3 kd34_13.2.2.2.2.2.2.2.1 rfl rfl ?_
                  refine X_iload hK (i := 5) 2 kd34_13.2.2.2.2.2.2.2.2.1 rfl ?_
                  refine X_iast hK hs_wp (by decide) (by decide) sl_13000 (by omega) (by omega) (by omega) (by omega) kd34_13.2.2.2.2.2.2.2.2.2.1 (fun g380 hg380 => ?_)
                  refine X_iinc hK (i := 3) (z := z255) (n := 1) 3 [(3, .int (iI (z255 + 1))), (4, .int (iI z357)), (6, .int (iI z323)), (5, .int (iI z253)), (2, .int (iI z1)), (0, .ref a0), (1, .ref a1)] kd34_13.2.2.2.2.2.2.2.2.2.2.1 rfl (by decide) rfl ?_
                  refine X_iinc hK (i := 5) (z := z253) (n := 1) 3 [(5, .int (iI (z253 + 1))), (3, .int (iI (z255 + 1))), (4, .int (iI z357)), (6, .int (iI z323)), (2, .int (iI z1)), (0, .ref a0), (1, .ref a1)] kd34_13.2.2.2.2.2.2.2.2.2.2.2 rfl (by decide) rfl ?_
                  refine X_goto hK 19 kd34_14.1 (by decide) ?_
                  refine X_lv [(5, .int (iI (z253 + 1))), (4, .int (iI z357)), (3, .int (iI (z255 + 1))), (2, .int (iI z1)), (0, .ref a0), (1, .ref a1)] [0, 2, 1, 4, 5, 6] rfl ?_
                  exact ihP316  g380 (xM_ua (xM_ua (xM.tr xM.rf xLe.rf hg256 (by decide)) hg379 hs_wt (by decide) (by decide)) hg380 hs_wp (by decide) (by decide)) (z253 + 1) (by omega) (by omega) z357 (by omega) (by omega) (z255 + 1) (by omega) (by omega) (xsc.go (by omega) (xsc.at v317 (by omega) (by rw [hb324]; omega)) (by rw [(xtk.nm (xsc.at v317 (by omega) (by rw [hb324]; omega)) (by omega) (by rw [hb324]; omega)).2.2.1]; exact ne360) (by omega)) (xTA.add v318 (by omega) (show xv g380 wt z255 = z377 from by rw [(xv_a hg380 (xne hs_wt hs_wp (by decide))), xv_s hg379 (by omega)]) (fun i9 hi9 h09 => (show xv g380 wt i9 = xv g256 wt i9 from by rw [(xv_a hg380 (xne hs_wt hs_wp (by decide))), (xv_k (i := i9) hg379 (by omega) (by omega) (by omega))])) (show xv g380 wp z255 = z253 from by rw [xv_s hg380 (by omega)]) (fun i9 hi9 h09 => (show xv g380 wp i9 = xv g256 wp i9 from by rw [(xv_k (i := i9) hg380 (by omega) (by omega) (by omega)), (xv_a hg379 (xne hs_wp hs_wt (by decide)))])) (by rw [(xtk.nm (xsc.at v317 (by omega) (by rw [hb324]; omega)) (by omega) (by rw [hb324]; omega)).1, ← ne360]; exact (by have h7 := k378; rw [(xv_m hg256 hs_fb (by decide) (by decide))] at h7; exact h7)) (xtk.nm (xsc.at v317 (by omega) (by rw [hb324]; omega)) (by omega) (by rw [hb324]; omega)).2.1.symm) (by omega) (by omega)
  exact P316 ((400 - 0 : Int).toNat + 1) g xM.rf 0 (by omega) (by omega) 0 (by omega) (by omega) 0 (by omega) (by omega) rfl (fun k q1 q2 => by omega) (by omega) (by omega)
