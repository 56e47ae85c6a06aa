
def xRC (tk tl : Int → Int) (m d a o : Int) (L : List xS3) (F a1 o1 q : Int) (L1 : List xS3) : Prop := ∃ r : xRr9, xQ tk m d a o L r ∧ xRt r F a1 o1 q tl ∧ (F = 0 → r.2.2.2 = L1)
section XRC
variable {tk tl : Int → Int} {d a o F a1 o1 q F2 a2 o2 q2 : Int} {L L1 L2 : List xS3}
theorem xRC.b {m : Int} (hm : m = 0 ∨ m = 1 ∨ m = 2) (h : xRC tk tl m d a o L F a1 o1 q L1) (e : F = 0) : o + 1 ≤ o1 ∧ o1 ≤ 50 ∧ a + 1 ≤ a1 ∧ (L1.length : Int) - 2 * o1 ≤ (L.length : Int) - 2 * o - 1 := by
  obtain ⟨r, h1, h2, h3⟩ := h
  obtain ⟨e1, e2, e3⟩ := h2.ok e
  have k := (h1.ok (by omega) e1).2.2.1 (by omega)
  rw [h3 e] at k
  omega
theorem xRC.f1 (h : ¬ (10 ≤ tk a ∧ tk a ≤ 21) ∧ tk a ≠ 7 ∧ tk a ≠ 25) (hq : q = tl a) : xRC tk tl 0 d a o L 1 a1 o1 q L1 := ⟨_, xQ.f1 h, Or.inr ⟨xn9 (by decide), rfl, hq⟩, fun e => absurd e (by decide)⟩
theorem xRC.f4 (h : ¬ (¬ (10 ≤ tk a ∧ tk a ≤ 21) ∧ tk a ≠ 7 ∧ tk a ≠ 25)) (h2 : 50 ≤ o ∨ 10 < d) (hq : q = tl a) : xRC tk tl 0 d a o L 4 a1 o1 q L1 := ⟨_, xQ.f4 h h2, Or.inr ⟨xn9 (by decide), rfl, hq⟩, fun e => absurd e (by decide)⟩
theorem xRC.flag (h : 10 ≤ tk a ∧ tk a ≤ 12) (h2 : ¬ (50 ≤ o ∨ 10 < d)) (ea : a1 = a + 1) (eo : o1 = o + 1) (eL : L1 = L ++ [(tk a - 10, 2, 0)]) : xRC tk tl 0 d a o L 0 a1 o1 q L1 := ⟨_, xQ.flag h h2, Or.inl ⟨rfl, rfl, ea, eo⟩, fun _ => eL.symm⟩
theorem xRC.fs (h : 13 ≤ tk a ∧ tk a ≤ 21) (h2 : ¬ (50 ≤ o ∨ 10 < d)) (h3 : ¬ (27 ≤ tk (a + 1) ∧ tk (a + 1) ≤ 29)) (hq : q = tl (a + 1)) : xRC tk tl 0 d a o L 1 a1 o1 q L1 := ⟨_, xQ.fs h h2 h3, Or.inr ⟨xn9 (by decide), rfl, hq⟩, fun e => absurd e (by decide)⟩
theorem xRC.fn (h : 13 ≤ tk a ∧ tk a ≤ 21) (h2 : ¬ (50 ≤ o ∨ 10 < d)) (h3 : 27 ≤ tk (a + 1) ∧ tk (a + 1) ≤ 29) (h4 : tk (a + 2) < 100) (hq : q = tl (a + 2)) : xRC tk tl 0 d a o L 1 a1 o1 q L1 := ⟨_, xQ.fn h h2 h3 h4, Or.inr ⟨xn9 (by decide), rfl, hq⟩, fun e => absurd e (by decide)⟩
theorem xRC.cmp (h : 13 ≤ tk a ∧ tk a ≤ 21) (h2 : ¬ (50 ≤ o ∨ 10 < d)) (h3 : 27 ≤ tk (a + 1) ∧ tk (a + 1) ≤ 29) (h4 : 100 ≤ tk (a + 2)) (ea : a1 = a + 3) (eo : o1 = o + 1) (eL : L1 = L ++ [(tk a - 10, tk (a + 1) - 27, tk (a + 2) - 100)]) : xRC tk tl 0 d a o L 0 a1 o1 q L1 := ⟨_, xQ.cmp h h2 h3 h4, Or.inl ⟨rfl, rfl, ea, eo⟩, fun _ => eL.symm⟩
theorem xRC.nt (h : tk a = 7) (h2 : ¬ (50 ≤ o ∨ 10 < d)) (h3 : xRC tk tl 0 (d + 1) (a + 1) (o + 1) L F a1 o1 q L1) (eL : F = 0 → L2 = L1 ++ [(12, 0, 0)]) : xRC tk tl 0 d a o L F a1 o1 q L2 := by
  obtain ⟨r, w1, w2, w3⟩ := h3
  refine ⟨_, xQ.nt h h2 w1, ?_, fun e => ?_⟩
  · unfold xEm9
    rcases w2 with ⟨e1, e2, e3, e4⟩ | ⟨e1, e2, e3⟩
    · rw [if_neg (by omega)]; exact Or.inl ⟨rfl, e2, e3, e4⟩
    · rw [if_pos e1]; exact Or.inr ⟨e1, e2, e3⟩
  · have e1 := (w2.ok e).1
    unfold xEm9
    rw [if_neg (by omega), eL e, ← w3 e]
theorem xRC.pf (h : tk a = 25) (h2 : ¬ (50 ≤ o ∨ 10 < d)) (h3 : xRC tk tl 2 (d + 1) (a + 1) (o + 1) L F a1 o1 q L1) (e : F ≠ 0) : xRC tk tl 0 d a o L F a2 o2 q L2 := by
  obtain ⟨r, w1, w2, w3⟩ := h3
  obtain ⟨e1, e2, e3⟩ := w2.no e
  refine ⟨_, xQ.par h h2 w1, Or.inr ?_, fun z => absurd z e⟩
  unfold xPar
  rw [if_pos e1]
  exact ⟨e1, e2, e3⟩
theorem xRC.po (h : tk a = 25) (h2 : ¬ (50 ≤ o ∨ 10 < d)) (h3 : xRC tk tl 2 (d + 1) (a + 1) (o + 1) L F a1 o1 q L1) (e : F = 0) (h4 : tk a1 = 26) : xRC tk tl 0 d a o L 0 (a1 + 1) o1 q2 L1 := by
  obtain ⟨r, w1, w2, w3⟩ := h3
  obtain ⟨e1, e2, e3⟩ := w2.ok e
  have k : xPar tk r = (0, r.2.1 + 1, r.2.2.1, r.2.2.2) := by
    unfold xPar
    rw [if_neg (by omega), if_pos (by rw [← e2]; exact h4)]
  refine ⟨_, xQ.par h h2 w1, Or.inl ?_, fun _ => ?_⟩
  · rw [k, ← e2, ← e3]; exact ⟨rfl, rfl, rfl, rfl⟩
  · rw [k]; exact w3 e
theorem xRC.px (h : tk a = 25) (h2 : ¬ (50 ≤ o ∨ 10 < d)) (h3 : xRC tk tl 2 (d + 1) (a + 1) (o + 1) L F a1 o1 q L1) (e : F = 0) (h4 : tk a1 ≠ 26) (hq : q2 = tl a1) : xRC tk tl 0 d a o L 1 a2 o2 q2 L2 := by
  obtain ⟨r, w1, w2, w3⟩ := h3
  obtain ⟨e1, e2, e3⟩ := w2.ok e
  refine ⟨_, xQ.par h h2 w1, Or.inr ?_, fun z => absurd z (by decide)⟩
  unfold xPar
  rw [if_neg (by omega), if_neg (by rw [← e2]; exact h4), ← e2]
  exact ⟨xn9 (by decide), rfl, hq⟩
theorem xRC.sq {m m' : Int} (hm : (m = 0 ∧ m' = 1) ∨ (m = 1 ∧ m' = 2)) (h : xRC tk tl m d a o L F a1 o1 q L1) (h2 : F ≠ 0 → F2 = F ∧ q2 = q) (h3 : F = 0 → xRC tk tl (m' + 2) d a1 o1 L1 F2 a2 o2 q2 L2) : xRC tk tl m' d a o L F2 a2 o2 q2 L2 := by
  obtain ⟨r, w1, w2, w3⟩ := h
  by_cases c : F = 0
  · obtain ⟨e1, e2, e3⟩ := w2.ok c
    obtain ⟨r', u1, u2, u3⟩ := h3 c
    rw [e2, e3, ← w3 c] at u1
    rcases hm with ⟨m0, m1⟩ | ⟨m0, m1⟩ <;> subst m0 <;> subst m1
    · exact ⟨r', xQ.all w1 (by rw [if_neg (by omega)]; exact u1), u2, u3⟩
    · exact ⟨r', xQ.cond w1 (by rw [if_neg (by omega)]; exact u1), u2, u3⟩
  · obtain ⟨e1, e2, e3⟩ := w2.no c
    obtain ⟨f1, f2⟩ := h2 c
    refine ⟨r, ?_, Or.inr ⟨e1, by omega, by rw [f2]; exact e3⟩, fun z => by omega⟩
    rcases hm with ⟨m0, m1⟩ | ⟨m0, m1⟩ <;> subst m0 <;> subst m1
    · exact xQ.all w1 (by rw [if_pos e1])
    · exact xQ.cond w1 (by rw [if_pos e1])
theorem xRC.t0 {m : Int} (hm : (m = 3 ∧ tk a ≠ 8) ∨ (m = 4 ∧ tk a ≠ 9)) : xRC tk tl m d a o L 0 a o q L := by
  rcases hm with ⟨m0, h⟩ | ⟨m0, h⟩ <;> subst m0
  · exact ⟨_, xQ.a0 h, Or.inl ⟨rfl, rfl, rfl, rfl⟩, fun _ => rfl⟩
  · exact ⟨_, xQ.c0 h, Or.inl ⟨rfl, rfl, rfl, rfl⟩, fun _ => rfl⟩
theorem xRC.t1 {m m' y : Int} (hm : (m = 3 ∧ m' = 0 ∧ y = 13 ∧ tk a = 8) ∨ (m = 4 ∧ m' = 1 ∧ y = 14 ∧ tk a = 9)) (h : xRC tk tl m' d (a + 1) o L F a1 o1 q L1) (h2 : F ≠ 0 → F2 = F ∧ q2 = q) (h3 : F = 0 → xRC tk tl m d a1 o1 (L1 ++ [(y, 0, 0)]) F2 a2 o2 q2 L2) : xRC tk tl m d a o L F2 a2 o2 q2 L2 := by
  obtain ⟨r, w1, w2, w3⟩ := h
  by_cases c : F = 0
  · obtain ⟨e1, e2, e3⟩ := w2.ok c
    obtain ⟨r', u1, u2, u3⟩ := h3 c
    rw [e2, e3, ← w3 c] at u1
    rcases hm with ⟨m0, m1, y0, t⟩ | ⟨m0, m1, y0, t⟩ <;> subst m0 <;> subst m1 <;> subst y0
    · exact ⟨r', xQ.a1 t w1 (by rw [if_neg (by omega)]; exact u1), u2, u3⟩
    · exact ⟨r', xQ.c1 t w1 (by rw [if_neg (by omega)]; exact u1), u2, u3⟩
  · obtain ⟨e1, e2, e3⟩ := w2.no c
    obtain ⟨f1, f2⟩ := h2 c
    refine ⟨r, ?_, Or.inr ⟨e1, by omega, by rw [f2]; exact e3⟩, fun z => by omega⟩
    rcases hm with ⟨m0, m1, y0, t⟩ | ⟨m0, m1, y0, t⟩ <;> subst m0 <;> subst m1 <;> subst y0
    · exact xQ.a1 t w1 (by rw [if_pos e1])
    · exact xQ.c1 t w1 (by rw [if_pos e1])
def xIC (tk tl : Int → Int) (m d a o : Int) (L : List xS3) (F ai oi qi : Int) (Li : List xS3) : Prop := (F = 0 → ∀ F2 a2 o2 q2 L2, xRC tk tl (m + 2) d ai oi Li F2 a2 o2 q2 L2 → xRC tk tl m d a o L F2 a2 o2 q2 L2) ∧ (F ≠ 0 → ∀ a2 o2 L2, xRC tk tl m d a o L F a2 o2 qi L2)
theorem xIC.z {m m' : Int} (hm : (m = 0 ∧ m' = 1) ∨ (m = 1 ∧ m' = 2)) (h : xRC tk tl m d a o L F a1 o1 q L1) : xIC tk tl m' d a o L F a1 o1 q L1 := ⟨fun e F2 a2 o2 q2 L2 w => xRC.sq hm h (fun c => absurd e c) (fun _ => w), fun e a2 o2 L2 => xRC.sq (F2 := F) (a2 := a2) (o2 := o2) (q2 := q) (L2 := L2) hm h (fun _ => ⟨rfl, rfl⟩) (fun c => absurd c e)⟩
theorem xIC.s {m m' y ai oi qi : Int} {Li : List xS3} (hm : (m = 1 ∧ m' = 0 ∧ y = 13 ∧ tk ai = 8) ∨ (m = 2 ∧ m' = 1 ∧ y = 14 ∧ tk ai = 9)) (h : xIC tk tl m d a o L F ai oi qi Li) (e : F = 0) (h1 : xRC tk tl m' d (ai + 1) oi Li F2 a1 o1 q L1) (eL : F2 = 0 → L2 = L1 ++ [(y, 0, 0)]) : xIC tk tl m d a o L F2 a1 o1 q L2 := by
  have hm' : (m + 2 = 3 ∧ m' = 0 ∧ y = 13 ∧ tk ai = 8) ∨ (m + 2 = 4 ∧ m' = 1 ∧ y = 14 ∧ tk ai = 9) := by omega
  refine ⟨fun c F3 a3 o3 q3 L3 w => ?_, fun c a3 o3 L3 => ?_⟩
  · rw [eL c] at w
    exact h.1 e F3 a3 o3 q3 L3 (xRC.t1 hm' h1 (fun z => absurd c z) (fun _ => w))
  · exact h.1 e F2 a3 o3 q L3 (xRC.t1 (F2 := F2) (q2 := q) hm' h1 (fun _ => ⟨rfl, rfl⟩) (fun z => absurd z c))
theorem xIC.e {m ai oi qi : Int} {Li : List xS3} (h : xIC tk tl m d a o L F ai oi qi Li) (e : F = 0 → (m = 1 ∧ tk ai ≠ 8) ∨ (m = 2 ∧ tk ai ≠ 9)) : xRC tk tl m d a o L F ai oi qi Li := by
  by_cases c : F = 0
  · have w := h.1 c 0 ai oi qi Li (xRC.t0 (by have := e c; omega))
    rw [c]; exact w
  · exact h.2 c ai oi Li
end XRC
def xStp (st : Int → Int) (n : Int) (L : List xS3) : Prop := n = L.length ∧ ∀ j : Int, 0 ≤ j → j < n → st j = xec9 (L.getD j.toNat (0, 0, 0))
theorem xStp.add {st st' : Int → Int} {n : Int} {L : List xS3} {x : xS3} (h : xStp st n L) (h1 : st' n = xec9 x) (h2 : ∀ j : Int, 0 ≤ j → j ≠ n → st' j = st j) : xStp st' (n + 1) (L ++ [x]) := by
  obtain ⟨e, w⟩ := h
  refine ⟨by rw [xlen1, e], fun j q1 q2 => ?_⟩
  by_cases c : j = n
  · rw [c, h1, List.getD_eq_getElem?_getD, List.getElem?_append_right (by omega), show n.toNat - L.length = 0 by omega]
    rfl
  · rw [h2 j q1 c, w j q1 (by omega), List.getD_eq_getElem?_getD, List.getD_eq_getElem?_getD, List.getElem?_append_left (by omega)]
