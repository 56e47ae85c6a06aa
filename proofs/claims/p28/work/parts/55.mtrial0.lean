
abbrev xS3 := Int × Int × Int
def xat9 (F : Int → Int) (x : xS3) : Bool := if x.2.1 = 0 then decide (F x.1 < x.2.2) else if x.2.1 = 2 then decide (x.2.2 < F x.1) else decide (F x.1 = x.2.2)
def xs19 (F : Int → Int) (x : xS3) (st : List Bool) : Option (List Bool) :=
  if x.1 = 12 then (match st with | b :: t => some ((!b) :: t) | [] => none)
  else if x.1 = 13 then (match st with | b :: a :: t => some ((a && b) :: t) | _ => none)
  else if x.1 = 14 then (match st with | b :: a :: t => some ((a || b) :: t) | _ => none)
  else some (xat9 F x :: st)
def xevk (F : Int → Int) (k : Nat) : List xS3 → List Bool → Option (List Bool)
  | [], st => some st
  | x :: l, st => (xs19 F x st).bind (fun s => if s.length ≤ k then xevk F k l s else none)
theorem xevk.app {F : Int → Int} {k : Nat} : ∀ (l m : List xS3) (st : List Bool), xevk F k (l ++ m) st = (xevk F k l st).bind (xevk F k m) := by
  intro l
  induction l with
  | nil => intro m st; rfl
  | cons x l ih =>
    intro m st
    show (xs19 F x st).bind (fun s => if s.length ≤ k then xevk F k (l ++ m) s else none) = ((xs19 F x st).bind (fun s => if s.length ≤ k then xevk F k l s else none)).bind (xevk F k m)
    cases xs19 F x st with
    | none => rfl
    | some s =>
      show (if s.length ≤ k then xevk F k (l ++ m) s else none) = (if s.length ≤ k then xevk F k l s else none).bind (xevk F k m)
      by_cases c : s.length ≤ k
      · rw [if_pos c, if_pos c]; exact ih m s
      · rw [if_neg c, if_neg c]; rfl
theorem xs19.not {F : Int → Int} {b : Bool} {t : List Bool} {y : Int × Int} : xs19 F (12, y) (b :: t) = some ((!b) :: t) := rfl
theorem xs19.and {F : Int → Int} {a b : Bool} {t : List Bool} {y : Int × Int} : xs19 F (13, y) (b :: a :: t) = some ((a && b) :: t) := rfl
theorem xs19.or {F : Int → Int} {a b : Bool} {t : List Bool} {y : Int × Int} : xs19 F (14, y) (b :: a :: t) = some ((a || b) :: t) := rfl
theorem xs19.at {F : Int → Int} {x : xS3} {t : List Bool} (h : x.1 ≠ 12 ∧ x.1 ≠ 13 ∧ x.1 ≠ 14) : xs19 F x t = some (xat9 F x :: t) := by
  unfold xs19
  rw [if_neg h.1, if_neg h.2.1, if_neg h.2.2]
theorem xevk.one {F : Int → Int} {k : Nat} {x : xS3} {st s : List Bool} (h : xs19 F x st = some s) (hk : s.length ≤ k) : xevk F k [x] st = some s := by
  show (xs19 F x st).bind (fun s => if s.length ≤ k then xevk F k [] s else none) = some s
  rw [h]
  show (if s.length ≤ k then xevk F k [] s else none) = some s
  rw [if_pos hk]
  rfl
theorem xevk.len {F : Int → Int} {k : Nat} : ∀ (l : List xS3) (st s : List Bool), xevk F k l st = some s → st.length ≤ k → s.length ≤ k := by
  intro l
  induction l with
  | nil => intro st s h hk; rw [← Option.some.inj h]; exact hk
  | cons x l ih =>
    intro st s h hk
    have h' : (xs19 F x st).bind (fun s => if s.length ≤ k then xevk F k l s else none) = some s := h
    cases e : xs19 F x st with
    | none => rw [e] at h'; cases h'
    | some q =>
      rw [e] at h'
      have h2 : (if q.length ≤ k then xevk F k l q else none) = some s := h'
      by_cases c : q.length ≤ k
      · rw [if_pos c] at h2; exact ih q s h2 c
      · rw [if_neg c] at h2; cases h2
theorem xevk.pre {F : Int → Int} {k : Nat} {l m : List xS3} {st s : List Bool} (h : xevk F k (l ++ m) st = some s) : ∃ q, xevk F k l st = some q ∧ xevk F k m q = some s := by
  rw [xevk.app] at h
  cases e : xevk F k l st with
  | none => rw [e] at h; cases h
  | some q => rw [e] at h; exact ⟨q, rfl, h⟩
def xok9 (F : Int → Int) (h : Nat) (M : List xS3) : Prop := ∀ (k : Nat) (st : List Bool), st.length + h ≤ k → ∃ v, xevk F k M st = some (v :: st)
section XOK9
variable {F : Int → Int} {h h1 h2 : Nat} {M N : List xS3} {x : xS3}
theorem xok9.mono (w : xok9 F h M) (hh : h ≤ h1) : xok9 F h1 M := fun k st q => w k st (by omega)
theorem xok9.at (e : x.1 ≠ 12 ∧ x.1 ≠ 13 ∧ x.1 ≠ 14) (hh : 1 ≤ h) : xok9 F h [x] := fun k st q => ⟨xat9 F x, xevk.one (xs19.at e) (by show st.length + 1 ≤ k; omega)⟩
theorem xok9.not (w : xok9 F h M) (hh : 1 ≤ h) : xok9 F h (M ++ [(12, 0, 0)]) := fun k st q => by
  obtain ⟨v, e⟩ := w k st q
  refine ⟨!v, ?_⟩
  rw [xevk.app, e]
  show xevk F k [((12 : Int), (0 : Int), (0 : Int))] (v :: st) = _
  exact xevk.one xs19.not (by show st.length + 1 ≤ k; omega)
theorem xok9.and (w : xok9 F h M) (u : xok9 F h1 N) (hh : h ≤ h2) (hh1 : h1 + 1 ≤ h2) : xok9 F h2 (M ++ N ++ [(13, 0, 0)]) := fun k st q => by
  obtain ⟨v, e⟩ := w k st (by omega)
  obtain ⟨y, f⟩ := u k (v :: st) (by show st.length + 1 + h1 ≤ k; omega)
  refine ⟨v && y, ?_⟩
  rw [xevk.app, xevk.app, e]
  show (xevk F k N (v :: st)).bind _ = _
  rw [f]
  show xevk F k [((13 : Int), (0 : Int), (0 : Int))] (y :: v :: st) = _
  exact xevk.one xs19.and (by show st.length + 1 ≤ k; omega)
theorem xok9.or (w : xok9 F h M) (u : xok9 F h1 N) (hh : h ≤ h2) (hh1 : h1 + 1 ≤ h2) : xok9 F h2 (M ++ N ++ [(14, 0, 0)]) := fun k st q => by
  obtain ⟨v, e⟩ := w k st (by omega)
  obtain ⟨y, f⟩ := u k (v :: st) (by show st.length + 1 + h1 ≤ k; omega)
  refine ⟨v || y, ?_⟩
  rw [xevk.app, xevk.app, e]
  show (xevk F k N (v :: st)).bind _ = _
  rw [f]
  show xevk F k [((14 : Int), (0 : Int), (0 : Int))] (y :: v :: st) = _
  exact xevk.one xs19.or (by show st.length + 1 ≤ k; omega)
end XOK9
def xhg (m d : Int) : Nat := (2 * (11 - d)).toNat + (if m = 0 then 1 else if m = 1 ∨ m = 3 then 2 else 3)
theorem xhg.e0 {d : Int} : xhg 0 d = (2 * (11 - d)).toNat + 1 := rfl
theorem xhg.e1 {d : Int} : xhg 1 d = (2 * (11 - d)).toNat + 2 := rfl
theorem xhg.e2 {d : Int} : xhg 2 d = (2 * (11 - d)).toNat + 3 := rfl
theorem xhg.e3 {d : Int} : xhg 3 d = (2 * (11 - d)).toNat + 2 := rfl
theorem xhg.e4 {d : Int} : xhg 4 d = (2 * (11 - d)).toNat + 3 := rfl
def xSh (F : Int → Int) (m d : Int) (L : List xS3) (r : xRr9) : Prop := r.1 = 0 → (m ≤ 2 → ∃ M, r.2.2.2 = L ++ M ∧ xok9 F (xhg m d) M) ∧ (3 ≤ m → ∀ L0 A, L = L0 ++ A → xok9 F (xhg m d) A → ∃ A', r.2.2.2 = L0 ++ A' ∧ xok9 F (xhg m d) A')
theorem xP.sh {tk F : Int → Int} : ∀ (k : Nat) (m d a o : Int) (L : List xS3) (r : xRr9), xP tk k m d a o L = some r → (m = 0 ∨ m = 1 ∨ m = 2 ∨ m = 3 ∨ m = 4) → xSh F m d L r := by
  intro k
  induction k with
  | zero => intro m d a o L r h; cases h
  | succ k ih =>
    intro m d a o L r h hm
    rcases hm with e | e | e | e | e <;> subst e
    · intro r0
      refine ⟨fun _ => ?_, fun h3 => by omega⟩
      by_cases c1 : ¬ (10 ≤ tk a ∧ tk a ≤ 21) ∧ tk a ≠ 7 ∧ tk a ≠ 25
      · have := xQ.det ⟨_, h⟩ (xQ.f1 (d := d) (o := o) (L := L) c1)
        rw [this] at r0
        cases r0
      · by_cases c2 : 50 ≤ o ∨ 10 < d
        · have := xQ.det ⟨_, h⟩ (xQ.f4 (L := L) c1 c2)
          rw [this] at r0
          cases r0
        · by_cases c3 : tk a = 25
          · rw [xP.par c3 c2] at h
            cases hq : xP tk k 2 (d + 1) (a + 1) (o + 1) L with
            | none => rw [hq] at h; cases h
            | some q =>
              rw [hq] at h
              have e : xPar tk q = r := Option.some.inj h
              have w := ih _ _ _ _ _ _ hq (by omega)
              unfold xPar at e
              by_cases c : q.1 ≠ 0
              · rw [if_pos c] at e
                rw [e] at c
                exact absurd r0 c
              · rw [if_neg c] at e
                obtain ⟨M, w1, w2⟩ := (w (by omega)).1 (by omega)
                by_cases cc : tk q.2.1 = 26
                · rw [if_pos cc] at e
                  rw [← e]
                  exact ⟨M, w1, w2.mono (by rw [xhg.e0, xhg.e2]; omega)⟩
                · rw [if_neg cc] at e
                  rw [← e] at r0
                  cases r0
          · by_cases c4 : tk a = 7
            · rw [xP.nt c4 c2] at h
              cases hq : xP tk k 0 (d + 1) (a + 1) (o + 1) L with
              | none => rw [hq] at h; cases h
              | some q =>
                rw [hq] at h
                have e : xEm9 (12, 0, 0) q = r := Option.some.inj h
                have w := ih _ _ _ _ _ _ hq (by omega)
                unfold xEm9 at e
                by_cases c : q.1 ≠ 0
                · rw [if_pos c] at e
                  rw [e] at c
                  exact absurd r0 c
                · rw [if_neg c] at e
                  obtain ⟨M, w1, w2⟩ := (w (by omega)).1 (by omega)
                  rw [← e]
                  refine ⟨M ++ [(12, 0, 0)], ?_, (w2.mono (h1 := xhg 0 d) (by rw [xhg.e0, xhg.e0]; omega)).not (by rw [xhg.e0]; omega)⟩
                  show q.2.2.2 ++ [(12, 0, 0)] = _
                  rw [w1, List.append_assoc]
            · have c5 : 10 ≤ tk a ∧ tk a ≤ 21 := by omega
              by_cases c6 : tk a < 13
              · have := xQ.det ⟨_, h⟩ (xQ.flag (L := L) (by omega) c2)
                rw [this]
                exact ⟨_, rfl, xok9.at ⟨by show tk a - 10 ≠ 12; omega, by show tk a - 10 ≠ 13; omega, by show tk a - 10 ≠ 14; omega⟩ (by rw [xhg.e0]; omega)⟩
              · by_cases c7 : 27 ≤ tk (a + 1) ∧ tk (a + 1) ≤ 29
                · by_cases c8 : tk (a + 2) < 100
                  · have := xQ.det ⟨_, h⟩ (xQ.fn (L := L) (by omega) c2 c7 c8)
                    rw [this] at r0
                    cases r0
                  · have := xQ.det ⟨_, h⟩ (xQ.cmp (L := L) (by omega) c2 c7 (by omega))
                    rw [this]
                    exact ⟨_, rfl, xok9.at ⟨by show tk a - 10 ≠ 12; omega, by show tk a - 10 ≠ 13; omega, by show tk a - 10 ≠ 14; omega⟩ (by rw [xhg.e0]; omega)⟩
                · have := xQ.det ⟨_, h⟩ (xQ.fs (L := L) (by omega) c2 c7)
                  rw [this] at r0
                  cases r0
    · intro r0
      rw [xP.e1] at h
      obtain ⟨q, h1, h2⟩ := xbnd h
      have w := ih _ _ _ _ _ _ h1 (by omega)
      by_cases c : q.1 ≠ 0
      · rw [if_pos c] at h2
        rw [Option.some.inj h2] at c
        exact absurd r0 c
      · rw [if_neg c] at h2
        obtain ⟨M, w1, w2⟩ := (w (by omega)).1 (by omega)
        have u := ih _ _ _ _ _ _ h2 (by omega) r0
        obtain ⟨A', u1, u2⟩ := u.2 (by omega) L M w1 (w2.mono (by rw [xhg.e0, xhg.e3]; omega))
        exact ⟨fun _ => ⟨A', u1, u2⟩, fun h3 => by omega⟩
    · intro r0
      rw [xP.e2] at h
      obtain ⟨q, h1, h2⟩ := xbnd h
      have w := ih _ _ _ _ _ _ h1 (by omega)
      by_cases c : q.1 ≠ 0
      · rw [if_pos c] at h2
        rw [Option.some.inj h2] at c
        exact absurd r0 c
      · rw [if_neg c] at h2
        obtain ⟨M, w1, w2⟩ := (w (by omega)).1 (by omega)
        have u := ih _ _ _ _ _ _ h2 (by omega) r0
        obtain ⟨A', u1, u2⟩ := u.2 (by omega) L M w1 (w2.mono (by rw [xhg.e1, xhg.e4]; omega))
        exact ⟨fun _ => ⟨A', u1, u2⟩, fun h3 => by omega⟩
    · intro r0
      rw [xP.e3] at h
      by_cases c8 : tk a = 8
      · rw [if_pos c8] at h
        obtain ⟨q, h1, h2⟩ := xbnd h
        have w := ih _ _ _ _ _ _ h1 (by omega)
        by_cases c : q.1 ≠ 0
        · rw [if_pos c] at h2
          rw [Option.some.inj h2] at c
          exact absurd r0 c
        · rw [if_neg c] at h2
          obtain ⟨M, w1, w2⟩ := (w (by omega)).1 (by omega)
          have u := ih _ _ _ _ _ _ h2 (by omega) r0
          refine ⟨fun h3 => by omega, fun _ L0 A eA hA => ?_⟩
          refine u.2 (by omega) L0 (A ++ M ++ [(13, 0, 0)]) (by rw [w1, eA, List.append_assoc, List.append_assoc, List.append_assoc]) (hA.and w2 (Nat.le_refl _) (by rw [xhg.e0, xhg.e3]; omega))
      · rw [if_neg c8] at h
        rw [← Option.some.inj h]
        exact ⟨fun h3 => by omega, fun _ L0 A eA hA => ⟨A, eA, hA⟩⟩
    · intro r0
      rw [xP.e4] at h
      by_cases c8 : tk a = 9
      · rw [if_pos c8] at h
        obtain ⟨q, h1, h2⟩ := xbnd h
        have w := ih _ _ _ _ _ _ h1 (by omega)
        by_cases c : q.1 ≠ 0
        · rw [if_pos c] at h2
          rw [Option.some.inj h2] at c
          exact absurd r0 c
        · rw [if_neg c] at h2
          obtain ⟨M, w1, w2⟩ := (w (by omega)).1 (by omega)
          have u := ih _ _ _ _ _ _ h2 (by omega) r0
          refine ⟨fun h3 => by omega, fun _ L0 A eA hA => ?_⟩
          refine u.2 (by omega) L0 (A ++ M ++ [(14, 0, 0)]) (by rw [w1, eA, List.append_assoc, List.append_assoc, List.append_assoc]) (hA.or w2 (Nat.le_refl _) (by rw [xhg.e1, xhg.e4]; omega))
      · rw [if_neg c8] at h
        rw [← Option.some.inj h]
        exact ⟨fun h3 => by omega, fun _ L0 A eA hA => ⟨A, eA, hA⟩⟩
theorem xQ.sh {tk : Int → Int} {a o : Int} {L : List xS3} {r : xRr9} (h : xQ tk 2 1 a o L r) (e : r.1 = 0) (F : Int → Int) : ∃ M, r.2.2.2 = L ++ M ∧ xok9 F 23 M := by
  obtain ⟨k, h⟩ := h
  obtain ⟨M, w1, w2⟩ := (xP.sh (F := F) k 2 1 a o L r h (by omega) e).1 (by omega)
  exact ⟨M, w1, w2⟩
def xen : List Bool → Int
  | [] => 1
  | b :: t => 2 * xen t + (if b = true then 1 else 0)
theorem xen.b : ∀ st : List Bool, 1 ≤ xen st ∧ xen st < 2 * 2 ^ st.length := by
  intro st
  induction st with
  | nil => exact ⟨Int.le_refl _, by decide⟩
  | cons b t ih =>
    show 1 ≤ 2 * xen t + (if b = true then 1 else 0) ∧ 2 * xen t + (if b = true then 1 else 0) < 2 * 2 ^ (t.length + 1)
    rw [Int.pow_succ]
    generalize (2 : Int) ^ t.length = p at ih ⊢
    split <;> omega
theorem xen.b30 {st : List Bool} (h : st.length ≤ 29) : 1 ≤ xen st ∧ xen st < 1073741824 := by
  have w := xen.b st
  have e : (2 : Int) ^ st.length ≤ 2 ^ 29 := by
    have : (2 : Nat) ^ st.length ≤ 2 ^ 29 := Nat.pow_le_pow_right (by decide) h
    exact_mod_cast this
  have e2 : (2 : Int) ^ 29 = 536870912 := by decide
  omega
section XBT
variable {o t a m z : Int}
theorem xb_and1 (e : iI o &&& iI 1 = iI z) (hz : -2147483648 ≤ z ∧ z ≤ 2147483647) (ho : 0 ≤ o ∧ o ≤ 2147483647) : z = o % 2 := by
  have e1 : (iI z).toBitVec = (iI o).toBitVec &&& (iI 1).toBitVec := by rw [← e]; rfl
  have e2 : (iI z).toBitVec.toNat = o.toNat &&& 1 := by rw [e1, BitVec.toNat_and, iI_nat ho.1 ho.2, iI_nat (z := 1) (by decide) (by decide)]; rfl
  rw [Nat.and_one_is_mod] at e2
  have := iI_natR hz e2 (by omega)
  omega
theorem xb_xor1 (e : iI o ^^^ iI 1 = iI z) (hz : -2147483648 ≤ z ∧ z ≤ 2147483647) (ho : 0 ≤ o ∧ o ≤ 2147483646) : z = o + 1 - 2 * (o % 2) := by
  have e1 : (iI z).toBitVec = (iI o).toBitVec ^^^ (iI 1).toBitVec := by rw [← e]; rfl
  have e2 : (iI z).toBitVec.toNat = o.toNat ^^^ 1 := by rw [e1, BitVec.toNat_xor, iI_nat ho.1 (by omega), iI_nat (z := 1) (by decide) (by decide)]; rfl
  have d := Nat.xor_div_two (a := o.toNat) (b := 1)
  have q := Nat.xor_mod_two_eq_one (a := o.toNat) (b := 1)
  rw [show (1 : Nat) / 2 = 0 by decide, Nat.xor_zero] at d
  generalize o.toNat ^^^ 1 = x at e2 d q
  have := iI_natR hz e2 (by omega)
  omega
theorem xb_ushr1 (e : ((iI o).toUInt32 >>> ((iI 1).toUInt32 &&& Int32.toUInt32 31)).toInt32 = iI z) (hz : -2147483648 ≤ z ∧ z ≤ 2147483647) (ho : 0 ≤ o ∧ o ≤ 2147483647) : z = o / 2 := by
  have k : (iI 1).toUInt32 &&& Int32.toUInt32 31 = 1 := by decide
  have e1 : (iI z).toBitVec = (iI o).toBitVec >>> (1 : Nat) := by rw [← e, k]; rfl
  have e2 : (iI z).toBitVec.toNat = o.toNat / 2 := by rw [e1, BitVec.toNat_ushiftRight, iI_nat ho.1 ho.2, Nat.shiftRight_eq_div_pow]
  have := iI_natR hz e2 (by omega)
  omega
theorem xb_or2 (e : iI t ||| iI (-2) = iI z) (hz : -2147483648 ≤ z ∧ z ≤ 2147483647) (ht : t = 0 ∨ t = 1) : z = t - 2 := by
  rcases ht with q | q <;> subst q
  · have k : iI 0 ||| iI (-2) = iI (-2) := by decide
    rw [k] at e
    exact ((iI_eq (by omega) hz).mp e).symm
  · have k : iI 1 ||| iI (-2) = iI (-1) := by decide
    rw [k] at e
    exact ((iI_eq (by omega) hz).mp e).symm
theorem xb_andm (e : iI a &&& iI m = iI z) (hz : -2147483648 ≤ z ∧ z ≤ 2147483647) (ha : 0 ≤ a ∧ a ≤ 2147483647) (hm : m = -1 ∨ m = -2) : z = if m = -1 then a else a - a % 2 := by
  have e1 : (iI z).toBitVec = (iI a).toBitVec &&& (iI m).toBitVec := by rw [← e]; rfl
  rcases hm with q | q <;> subst q
  · have k : (iI (-1)).toBitVec = BitVec.allOnes 32 := by decide
    rw [k, BitVec.and_allOnes] at e1
    have e2 : (iI z).toBitVec.toNat = a.toNat := by rw [e1]; exact iI_nat ha.1 ha.2
    have := iI_natR hz e2 (by omega)
    rw [if_pos rfl]
    omega
  · have k : (iI (-2)).toBitVec.toNat = 4294967294 := by decide
    have e2 : (iI z).toBitVec.toNat = a.toNat &&& 4294967294 := by rw [e1, BitVec.toNat_and, iI_nat ha.1 ha.2, k]
    have d := Nat.and_div_two (a := a.toNat) (b := 4294967294)
    have q := Nat.and_mod_two_eq_one (a := a.toNat) (b := 4294967294)
    rw [show (4294967294 : Nat) / 2 = 2 ^ 31 - 1 by decide, Nat.and_two_pow_sub_one_eq_mod] at d
    generalize a.toNat &&& 4294967294 = x at e2 d q
    have hx : x < 2147483648 := by omega
    have := iI_natR hz e2 hx
    rw [if_neg (by decide)]
    omega
theorem xb_or01 (e : iI a ||| iI t = iI z) (hz : -2147483648 ≤ z ∧ z ≤ 2147483647) (ha : 0 ≤ a ∧ a ≤ 2147483646) (ht : t = 0 ∨ t = 1) : z = if t = 1 ∧ a % 2 = 0 then a + 1 else a := by
  have e1 : (iI z).toBitVec = (iI a).toBitVec ||| (iI t).toBitVec := by rw [← e]; rfl
  have e2 : (iI z).toBitVec.toNat = a.toNat ||| t.toNat := by rw [e1, BitVec.toNat_or, iI_nat ha.1 (by omega), iI_nat (by omega) (by omega)]
  have d := Nat.or_div_two (a := a.toNat) (b := t.toNat)
  have q := Nat.or_mod_two_eq_one (a := a.toNat) (b := t.toNat)
  rw [show t.toNat / 2 = 0 by omega, Nat.or_zero] at d
  generalize a.toNat ||| t.toNat = x at e2 d q
  have := iI_natR hz e2 (by omega)
  split <;> omega
theorem xb_shl1 (e : iI o <<< (iI 1 &&& 31) = iI z) (hz : -2147483648 ≤ z ∧ z ≤ 2147483647) (ho : 0 ≤ o ∧ o < 1073741824) : z = 2 * o := by
  have k : (iI 1 &&& 31 : Int32) = 1 := by decide
  have e1 : (iI z).toBitVec = (iI o).toBitVec <<< (1 : Nat) := by rw [← e, k]; rfl
  have e2 : (iI z).toBitVec.toNat = 2 * o.toNat := by
    rw [e1, BitVec.toNat_shiftLeft, iI_nat ho.1 (by omega), Nat.shiftLeft_eq]
    omega
  have := iI_natR hz e2 (by omega)
  omega
end XBT
abbrev xL3 := Int × Int × List xS3
def xhl9 (F : Int → Int) (c : List xS3) : Bool := match xevk F 23 c [] with
  | some (v :: _) => v
  | _ => true
def xlf9 (F : Int → Int) (w : Int) : List xL3 → Int → Int
  | [], _ => -1
  | x :: l, i => if x.1 = w ∧ xhl9 F x.2.2 = true then i else xlf9 F w l (i + 1)
def xdf9 (w : Int) : Int := if w = 0 then 60 else if w = 1 then 1 else if w = 2 then 0 else if w = 3 then 200 else if w = 4 then 1 else 100
def xgl9 (T : List xL3) (i : Nat) : xL3 := T.getD i (0, 0, [])
def xnb9 (T : List xL3) (i w : Int) : Int := if i = -1 then xdf9 w else (xgl9 T i.toNat).2.1
def xcp9 (w v : Int) : Int := if w = 2 ∧ 100 < v then 100 else v
def xts9 (T : List xL3) (F : Int → Int) (w : Int) : Int := xcp9 w (xnb9 T (xlf9 F w T 0) w)
theorem xdr3 : ∀ (T : List xL3) (i : Nat), i < T.length → T.drop i = xgl9 T i :: T.drop (i + 1) := by
  intro T
  induction T with
  | nil => intro i hi; exact absurd hi (Nat.not_lt_zero _)
  | cons c l ih =>
    intro i hi
    cases i with
    | zero => rfl
    | succ i => exact ih i (Nat.lt_of_succ_lt_succ hi)
theorem xlf9.s {F : Int → Int} {w i : Int} {T : List xL3} (hi : 0 ≤ i ∧ i < T.length) : xlf9 F w (T.drop i.toNat) i = if (xgl9 T i.toNat).1 = w ∧ xhl9 F (xgl9 T i.toNat).2.2 = true then i else xlf9 F w (T.drop (i + 1).toNat) (i + 1) := by
  rw [xdr3 T i.toNat (by omega), show (i + 1).toNat = i.toNat + 1 by omega]
  rfl
theorem xlf9.e {F : Int → Int} {w i : Int} {T : List xL3} (hi : (T.length : Int) ≤ i) : xlf9 F w (T.drop i.toNat) i = -1 := by
  rw [List.drop_eq_nil_of_le (by omega)]
  rfl
theorem xlf9.r {F : Int → Int} {w : Int} : ∀ (T : List xL3) (i : Int), 0 ≤ i → xlf9 F w T i = -1 ∨ (i ≤ xlf9 F w T i ∧ xlf9 F w T i < i + T.length) := by
  intro T
  induction T with
  | nil => intro i _; exact Or.inl rfl
  | cons x l ih =>
    intro i hi
    show (if _ then i else _) = -1 ∨ (i ≤ (if _ then i else _) ∧ (if _ then i else _) < i + ((l.length + 1 : Nat) : Int))
    by_cases c : x.1 = w ∧ xhl9 F x.2.2 = true
    · rw [if_pos c]; exact Or.inr ⟨Int.le_refl _, by omega⟩
    · rw [if_neg c]
      rcases ih (i + 1) (by omega) with q | q
      · exact Or.inl q
      · exact Or.inr ⟨by omega, by omega⟩
theorem xtk3 : ∀ (c : List xS3) (k : Nat), k < c.length → c.take (k + 1) = c.take k ++ [c.getD k (0, 0, 0)] := by
  intro c
  induction c with
  | nil => intro k hk; exact absurd hk (Nat.not_lt_zero _)
  | cons x l ih =>
    intro k hk
    cases k with
    | zero => rfl
    | succ k => show x :: l.take (k + 1) = x :: (l.take k ++ [l.getD k (0, 0, 0)]); rw [ih k (Nat.lt_of_succ_lt_succ hk)]
theorem xnx9 {F : Int → Int} {c : List xS3} {k : Nat} {st : List Bool} (hc : xok9 F 23 c) (hk : k < c.length) (h : xevk F 23 (c.take k) [] = some st) : ∃ q, xs19 F (c.getD k (0, 0, 0)) st = some q ∧ st.length ≤ 23 ∧ q.length ≤ 23 ∧ xevk F 23 (c.take (k + 1)) [] = some q := by
  obtain ⟨v, e⟩ := hc 23 [] (Nat.le_refl _)
  have e2 := e
  rw [← List.take_append_drop (k + 1) c] at e2
  obtain ⟨q, q1, q2⟩ := xevk.pre e2
  have q3 := q1
  rw [xtk3 c k hk] at q3
  obtain ⟨s, s1, s2⟩ := xevk.pre q3
  rw [h] at s1
  have e3 := Option.some.inj s1
  subst e3
  have l1 := xevk.len _ _ _ h (Nat.zero_le _)
  have l2 := xevk.len _ _ _ q1 (Nat.zero_le _)
  refine ⟨q, ?_, l1, l2, q1⟩
  have s3 : (xs19 F (c.getD k (0, 0, 0)) st).bind (fun s => if s.length ≤ 23 then xevk F 23 [] s else none) = some q := s2
  cases hx : xs19 F (c.getD k (0, 0, 0)) st with
  | none => rw [hx] at s3; cases s3
  | some y =>
    rw [hx] at s3
    have s4 : (if y.length ≤ 23 then xevk F 23 [] y else none) = some q := s3
    by_cases cc : y.length ≤ 23
    · rw [if_pos cc] at s4; exact s4
    · rw [if_neg cc] at s4; cases s4
theorem xs12 {F : Int → Int} {x : xS3} {st q : List Bool} (e : x.1 = 12) (h : xs19 F x st = some q) : ∃ b t, st = b :: t ∧ q = (!b) :: t := by
  unfold xs19 at h
  rw [if_pos e] at h
  cases st with
  | nil => cases h
  | cons b t => exact ⟨b, t, rfl, (Option.some.inj h).symm⟩
theorem xs13 {F : Int → Int} {x : xS3} {st q : List Bool} (e : x.1 = 13) (h : xs19 F x st = some q) : ∃ b a t, st = b :: a :: t ∧ q = (a && b) :: t := by
  unfold xs19 at h
  rw [if_neg (by omega), if_pos e] at h
  cases st with
  | nil => cases h
  | cons b t =>
    cases t with
    | nil => cases h
    | cons a t => exact ⟨b, a, t, rfl, (Option.some.inj h).symm⟩
theorem xs14 {F : Int → Int} {x : xS3} {st q : List Bool} (e : x.1 = 14) (h : xs19 F x st = some q) : ∃ b a t, st = b :: a :: t ∧ q = (a || b) :: t := by
  unfold xs19 at h
  rw [if_neg (by omega), if_neg (by omega), if_pos e] at h
  cases st with
  | nil => cases h
  | cons b t =>
    cases t with
    | nil => cases h
    | cons a t => exact ⟨b, a, t, rfl, (Option.some.inj h).symm⟩
theorem xs1a {F : Int → Int} {x : xS3} {st q : List Bool} (e : x.1 ≠ 12 ∧ x.1 ≠ 13 ∧ x.1 ≠ 14) (h : xs19 F x st = some q) : q = xat9 F x :: st := by
  rw [xs19.at e] at h
  exact (Option.some.inj h).symm
def xbi (b : Bool) : Int := if b = true then 1 else 0
theorem xbi.r (b : Bool) : xbi b = 0 ∨ xbi b = 1 := by cases b <;> decide
theorem xbi.and (a b : Bool) : xbi (a && b) = 1 ↔ xbi a = 1 ∧ xbi b = 1 := by cases a <;> cases b <;> decide
theorem xbi.or (a b : Bool) : xbi (a || b) = 1 ↔ xbi a = 1 ∨ xbi b = 1 := by cases a <;> cases b <;> decide
theorem xen.c (b : Bool) (t : List Bool) : xen (b :: t) = 2 * xen t + xbi b := rfl
def xHo (F : Int → Int) (c : List xS3) (k : Nat) (o : Int) : Prop := ∃ st, xevk F 23 (c.take k) [] = some st ∧ o = xen st
section XHO
variable {F : Int → Int} {c : List xS3} {k : Nat} {o z : Int}
theorem xHo.nil : xHo F c 0 1 := ⟨[], rfl, rfl⟩
theorem xHo.b (h : xHo F c k o) : 1 ≤ o ∧ o < 1073741824 := by
  obtain ⟨st, h1, h2⟩ := h
  have := xevk.len _ _ _ h1 (Nat.zero_le _)
  rw [h2]
  exact xen.b30 (by omega)
theorem xHo.not (h : xHo F c k o) (hc : xok9 F 23 c) (hk : k < c.length) (e : (c.getD k (0, 0, 0)).1 = 12) (hz : z = o + 1 - 2 * (o % 2)) : xHo F c (k + 1) z := by
  obtain ⟨st, h1, h2⟩ := h
  obtain ⟨q, q1, q2, q3, q4⟩ := xnx9 hc hk h1
  obtain ⟨b, t, e1, e2⟩ := xs12 e q1
  refine ⟨q, q4, ?_⟩
  subst e1
  subst e2
  rw [xen.c] at h2 ⊢
  cases b
  · have r : xbi false = 0 := rfl
    have r2 : xbi (!false) = 1 := rfl
    omega
  · have r : xbi true = 1 := rfl
    have r2 : xbi (!true) = 0 := rfl
    omega
theorem xHo.and (h : xHo F c k o) (hc : xok9 F 23 c) (hk : k < c.length) (e : (c.getD k (0, 0, 0)).1 = 13) (hz : z = if o % 2 = 1 then o / 2 else o / 2 - o / 2 % 2) : xHo F c (k + 1) z := by
  obtain ⟨st, h1, h2⟩ := h
  obtain ⟨q, q1, q2, q3, q4⟩ := xnx9 hc hk h1
  obtain ⟨b, a, t, e1, e2⟩ := xs13 e q1
  refine ⟨q, q4, ?_⟩
  subst e1
  subst e2
  rw [xen.c, xen.c] at h2
  rw [xen.c]
  cases a <;> cases b <;> (simp only [xbi, Bool.and_true, Bool.and_false, Bool.true_and, Bool.false_and, if_pos, if_neg, Bool.false_eq_true] at h2 ⊢) <;> (split at hz <;> omega)
theorem xHo.or (h : xHo F c k o) (hc : xok9 F 23 c) (hk : k < c.length) (e : (c.getD k (0, 0, 0)).1 = 14) (hz : z = if o % 2 = 1 ∧ o / 2 % 2 = 0 then o / 2 + 1 else o / 2) : xHo F c (k + 1) z := by
  obtain ⟨st, h1, h2⟩ := h
  obtain ⟨q, q1, q2, q3, q4⟩ := xnx9 hc hk h1
  obtain ⟨b, a, t, e1, e2⟩ := xs14 e q1
  refine ⟨q, q4, ?_⟩
  subst e1
  subst e2
  rw [xen.c, xen.c] at h2
  rw [xen.c]
  cases a <;> cases b <;> (simp only [xbi, Bool.or_true, Bool.or_false, Bool.true_or, Bool.false_or, if_pos, if_neg, Bool.false_eq_true] at h2 ⊢) <;> (split at hz <;> omega)
theorem xHo.at (h : xHo F c k o) (hc : xok9 F 23 c) (hk : k < c.length) (e : (c.getD k (0, 0, 0)).1 ≠ 12 ∧ (c.getD k (0, 0, 0)).1 ≠ 13 ∧ (c.getD k (0, 0, 0)).1 ≠ 14) (hz : z = 2 * o + xbi (xat9 F (c.getD k (0, 0, 0)))) : xHo F c (k + 1) z := by
  obtain ⟨st, h1, h2⟩ := h
  obtain ⟨q, q1, q2, q3, q4⟩ := xnx9 hc hk h1
  have e2 := xs1a e q1
  refine ⟨q, q4, ?_⟩
  rw [e2, xen.c, ← h2]
  exact hz
theorem xHo.end (h : xHo F c c.length o) (hc : c = [] ∨ xok9 F 23 c) : (o % 2 = 1 ↔ xhl9 F c = true) := by
  obtain ⟨st, h1, h2⟩ := h
  rw [List.take_length] at h1
  rcases hc with e | hc
  · subst e
    have e2 : st = [] := (Option.some.inj h1).symm
    subst e2
    rw [h2]
    exact ⟨fun _ => rfl, fun _ => rfl⟩
  · obtain ⟨v, e⟩ := hc 23 [] (Nat.le_refl _)
    rw [h1] at e
    have e2 := Option.some.inj e
    subst e2
    have e3 : xhl9 F c = v := by unfold xhl9; rw [h1]
    rw [e3, h2]
    cases v
    · exact ⟨fun q => absurd q (by decide), fun q => by cases q⟩
    · exact ⟨fun _ => rfl, fun _ => by decide⟩
end XHO
def xVl (val : Int → Int) : List Bool → Prop
  | [] => True
  | b :: t => val (t.length : Int) = xbi b ∧ xVl val t
theorem xVl.fr {val val' : Int → Int} : ∀ st : List Bool, xVl val st → (∀ i : Int, 0 ≤ i → i < st.length → val' i = val i) → xVl val' st := by
  intro st
  induction st with
  | nil => intro _ _; trivial
  | cons b t ih =>
    intro h hv
    have hv' : ∀ i : Int, 0 ≤ i → i < ((t.length + 1 : Nat) : Int) → val' i = val i := hv
    exact ⟨(hv' _ (by omega) (by omega)).trans h.1, ih h.2 (fun i q1 q2 => hv' i q1 (by omega))⟩
def xHv (F : Int → Int) (c : List xS3) (k : Nat) (n : Int) (val : Int → Int) : Prop := ∃ st, xevk F 23 (c.take k) [] = some st ∧ n = st.length ∧ xVl val st
section XHV
variable {F : Int → Int} {c : List xS3} {k : Nat} {n : Int} {val val' : Int → Int}
theorem xHv.z : xHv F c 0 0 val := ⟨[], rfl, rfl, trivial⟩
theorem xHv.b (h : xHv F c k n val) : 0 ≤ n ∧ n ≤ 23 := by
  obtain ⟨st, h1, h2, h3⟩ := h
  have := xevk.len _ _ _ h1 (Nat.zero_le _)
  omega
theorem xHv.not (h : xHv F c k n val) (hc : xok9 F 23 c) (hk : k < c.length) (e : (c.getD k (0, 0, 0)).1 = 12) : 1 ≤ n ∧ ∀ val', val' (n - 1) = 1 - val (n - 1) → (∀ i : Int, 0 ≤ i → i ≠ n - 1 → val' i = val i) → xHv F c (k + 1) n val' := by
  obtain ⟨st, h1, h2, h3⟩ := h
  obtain ⟨q, q1, q2, q3, q4⟩ := xnx9 hc hk h1
  obtain ⟨b, t, e1, e2⟩ := xs12 e q1
  subst e1
  subst e2
  have h2' : n = ((t.length + 1 : Nat) : Int) := h2
  refine ⟨by omega, fun val' v1 v2 => ⟨_, q4, h2', ?_, xVl.fr t h3.2 (fun i r1 r2 => v2 i r1 (by omega))⟩⟩
  rw [show (t.length : Int) = n - 1 by omega, v1, show n - 1 = (t.length : Int) by omega, h3.1]
  cases b <;> decide
theorem xHv.two (h : xHv F c k n val) (hc : xok9 F 23 c) (hk : k < c.length) (e : (c.getD k (0, 0, 0)).1 = 13 ∨ (c.getD k (0, 0, 0)).1 = 14) : 2 ≤ n ∧ (val (n - 1) = 0 ∨ val (n - 1) = 1) ∧ (val (n - 2) = 0 ∨ val (n - 2) = 1) ∧ ∀ val', (((c.getD k (0, 0, 0)).1 = 13 → (val' (n - 2) = 1 ↔ val (n - 2) = 1 ∧ val (n - 1) = 1)) ∧ ((c.getD k (0, 0, 0)).1 = 14 → (val' (n - 2) = 1 ↔ val (n - 2) = 1 ∨ val (n - 1) = 1))) → (val' (n - 2) = 0 ∨ val' (n - 2) = 1) → (∀ i : Int, 0 ≤ i → i ≠ n - 2 → val' i = val i) → xHv F c (k + 1) (n - 1) val' := by
  obtain ⟨st, h1, h2, h3⟩ := h
  obtain ⟨q, q1, q2, q3, q4⟩ := xnx9 hc hk h1
  have key : ∃ b a t y, st = b :: a :: t ∧ q = y :: t ∧ (((c.getD k (0, 0, 0)).1 = 13 → y = (a && b)) ∧ ((c.getD k (0, 0, 0)).1 = 14 → y = (a || b))) := by
    rcases e with e | e
    · obtain ⟨b, a, t, e1, e2⟩ := xs13 e q1
      exact ⟨b, a, t, _, e1, e2, fun _ => rfl, fun w => by omega⟩
    · obtain ⟨b, a, t, e1, e2⟩ := xs14 e q1
      exact ⟨b, a, t, _, e1, e2, fun w => by omega, fun _ => rfl⟩
  obtain ⟨b, a, t, y, e1, e2, e3⟩ := key
  subst e1
  subst e2
  have h2' : n = ((t.length + 1 + 1 : Nat) : Int) := h2
  have v0 : val ((t.length + 1 : Nat) : Int) = xbi b := h3.1
  have v1 : val (t.length : Int) = xbi a := h3.2.1
  have i1 : n - 1 = ((t.length + 1 : Nat) : Int) := by omega
  have i2 : n - 2 = (t.length : Int) := by omega
  refine ⟨by omega, by rw [i1, v0]; exact xbi.r b, by rw [i2, v1]; exact xbi.r a, fun val' w1 w2 w3 => ⟨_, q4, i1, ?_, xVl.fr t h3.2.2 (fun i r1 r2 => w3 i r1 (by omega))⟩⟩
  rw [i2, v1, i1, v0] at w1
  rw [i2] at w2
  rcases e with e | e
  · have w := w1.1 e
    rw [e3.1 e]
    have h5 := xbi.and a b
    have h6 := xbi.r (a && b)
    omega
  · have w := w1.2 e
    rw [e3.2 e]
    have h5 := xbi.or a b
    have h6 := xbi.r (a || b)
    omega
theorem xHv.at (h : xHv F c k n val) (hc : xok9 F 23 c) (hk : k < c.length) (e : (c.getD k (0, 0, 0)).1 ≠ 12 ∧ (c.getD k (0, 0, 0)).1 ≠ 13 ∧ (c.getD k (0, 0, 0)).1 ≠ 14) (v1 : val' n = xbi (xat9 F (c.getD k (0, 0, 0)))) (v2 : ∀ i : Int, 0 ≤ i → i ≠ n → val' i = val i) : xHv F c (k + 1) (n + 1) val' := by
  obtain ⟨st, h1, h2, h3⟩ := h
  obtain ⟨q, q1, q2, q3, q4⟩ := xnx9 hc hk h1
  have e2 := xs1a e q1
  subst e2
  refine ⟨_, q4, by show n + 1 = ((st.length + 1 : Nat) : Int); omega, ?_, xVl.fr st h3 (fun i r1 r2 => v2 i r1 (by omega))⟩
  rw [← h2]
  exact v1
theorem xHv.end (h : xHv F c c.length n val) (hc : c = [] ∨ xok9 F 23 c) : (n = 0 ∧ xhl9 F c = true) ∨ (n = 1 ∧ val 0 = xbi (xhl9 F c)) := by
  obtain ⟨st, h1, h2, h3⟩ := h
  rw [List.take_length] at h1
  rcases hc with e | hc
  · subst e
    have e2 : st = [] := (Option.some.inj h1).symm
    subst e2
    exact Or.inl ⟨h2, rfl⟩
  · obtain ⟨v, e⟩ := hc 23 [] (Nat.le_refl _)
    rw [h1] at e
    have e2 := Option.some.inj e
    subst e2
    have e3 : xhl9 F c = v := by unfold xhl9; rw [h1]
    rw [e3]
    exact Or.inr ⟨h2, h3.1⟩
end XHV
