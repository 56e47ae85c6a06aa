
def xwp (z : Int) : Int := (iI z).toInt
theorem xwp.r (z : Int) : -2147483648 ≤ xwp z ∧ xwp z ≤ 2147483647 := by
  have h1 := (iI z).le_toInt
  have h2 := (iI z).toInt_lt
  unfold xwp
  omega
theorem xwp.e (z : Int) : iI (xwp z) = iI z := iI_of _
theorem xwp.id {z : Int} (h : -2147483648 ≤ z ∧ z ≤ 2147483647) : xwp z = z := iI_toInt h.1 h.2
theorem xwp.of {z y : Int} (e : iI z = iI y) (hz : -2147483648 ≤ z ∧ z ≤ 2147483647) : z = xwp y := by
  unfold xwp
  rw [← e, iI_toInt hz.1 hz.2]
theorem xwp.add (a b : Int) : xwp (xwp a + b) = xwp (a + b) := by
  unfold xwp
  rw [← iI_add, iI_of, iI_add]
theorem xqsum {n : Nat} {q f : Int → Int} : ∀ (m : Nat) (g : Int → Int), (∀ i : Int, 0 ≤ i → i < m → 0 ≤ q i ∧ q i < n) → (∀ i j : Int, 0 ≤ i → i < j → j < m → q i ≠ q j) → (∀ i : Int, 0 ≤ i → i < m → g (q i) = f (q i)) → (∀ k : Int, 0 ≤ k → k < n → (∀ i : Int, 0 ≤ i → i < m → q i ≠ k) → g k = 0) → xzm g n = xzm (fun i => f (q i)) m := by
  intro m
  induction m with
  | zero => intro g _ _ _ h4; exact xzm.z n (fun k q1 q2 => h4 k q1 q2 (fun i r1 r2 => by omega))
  | succ m ih =>
    intro g h1 h2 h3 h4
    have r := h1 m (by omega) (by omega)
    have e := ih (fun k => if k = q m then 0 else g k) (fun i q1 q2 => h1 i q1 (by omega)) (fun i j q1 q2 q3 => h2 i j q1 q2 (by omega)) (fun i q1 q2 => by
      show (if q i = q m then 0 else g (q i)) = f (q i)
      rw [if_neg (h2 i m q1 q2 (by omega))]
      exact h3 i q1 (by omega)) (fun k q1 q2 q3 => by
      show (if k = q m then 0 else g k) = 0
      by_cases c : k = q m
      · rw [if_pos c]
      · rw [if_neg c]
        exact h4 k q1 q2 (fun i r1 r2 => by
          by_cases w : i = m
          · rw [w]; exact fun z => c z.symm
          · exact q3 i r1 (by omega)))
    have u := xzm.up' (f := fun k => if k = q m then 0 else g k) (f' := g) (j := q m) (v := f (q m)) n (by
      show g (q m) = (if q m = q m then 0 else g (q m)) + f (q m)
      rw [if_pos rfl, h3 m (by omega) (by omega)]
      omega) (fun i q1 q2 q3 => by
      show g i = (if i = q m then 0 else g i)
      rw [if_neg q3]) r.1 r.2
    rw [u, e]
    rfl
theorem xQs.inj {n m : Int} {dy K q : Int → Int} {d : Int} (h : xQs n dy K d q m) {i j : Int} (h1 : 0 ≤ i) (h2 : i < j) (h3 : j < m) : q i ≠ q j := fun e => by
  have := h.2.1 i j h1 h2 h3
  rw [e] at this
  omega
theorem xQs.sum {n : Nat} {m : Int} {dy K q : Int → Int} {d : Int} (h : xQs n dy K d q m) (f : Int → Int) : xzm (fun i => f (q i)) m.toNat = xzm (fun k => if dy k = d then f k else 0) n := by
  refine (xqsum (n := n) (q := q) (f := f) m.toNat (fun k => if dy k = d then f k else 0) (fun i q1 q2 => ?_) (fun i j q1 q2 q3 => h.inj q1 q2 (by omega)) (fun i q1 q2 => ?_) (fun k q1 q2 q3 => ?_)).symm
  · have w := h.1 i q1 (by omega)
    exact ⟨w.1, w.2.1⟩
  · have w := h.1 i q1 (by omega)
    exact if_pos w.2.2
  · show (if dy k = d then f k else 0) = 0
    by_cases c : dy k = d
    · obtain ⟨i, i1, i2, i3⟩ := h.2.2.1 k q1 q2 c
      exact absurd i3 (q3 i i1 (by omega))
    · rw [if_neg c]
def xQcr (n : Nat) (dy co pa cp K may : Int → Int) (ask : Int → Int → Int) (d : Int) (q : Int → Int) (i : Int) (s : Int → Int) (left : Int) : Prop := (∀ j : Int, 0 ≤ j → j < i → s (q j) = if may (q j) = 1 then xmn9 (xlft n dy co pa K s ask d (q j)) (cp (q j)) else 0) ∧ (0 < i → left = xlft n dy co pa K s ask d (q (i - 1)) - s (q (i - 1)))
section XQC
variable {n : Nat} {m : Int} {dy co pa cp K may q s : Int → Int} {ask : Int → Int → Int} {d i left : Int}
theorem xQcr.z : xQcr n dy co pa cp K may ask d q 0 s left := ⟨fun j q1 q2 => by omega, fun h => by omega⟩
theorem xQcr.l0 (h : xQs n dy K d q m) (hi : 0 ≤ i ∧ i < m) (hKp : ∀ j k : Int, 0 ≤ j → j < n → 0 ≤ k → k < n → 4 * co j + pa j < 4 * co k + pa k → K j < K k) (hr : ∀ j : Int, 0 ≤ j → j < n → 0 ≤ pa j ∧ pa j ≤ 3) (w : xQcr n dy co pa cp K may ask d q i s left) : ((i = 0 ∨ co (q (i - 1)) ≠ co (q i) ∨ pa (q (i - 1)) ≠ pa (q i)) → xlft n dy co pa K s ask d (q i) = ask (co (q i)) (pa (q i))) ∧ (0 < i → co (q (i - 1)) = co (q i) → pa (q (i - 1)) = pa (q i) → xlft n dy co pa K s ask d (q i) = left) := by
  refine ⟨fun c => h.first hi hKp hr c, fun c c1 c2 => ?_⟩
  have e := h.next (s := s) (ask := ask) (i := i - 1) ⟨by omega, by omega⟩ (by rw [show i - 1 + 1 = i by omega]; exact ⟨c1, c2⟩)
  rw [show i - 1 + 1 = i by omega] at e
  rw [e]
  exact (w.2 c).symm
theorem xQcr.nx {v l0 : Int} (h : xQs n dy K d q m) (hi : 0 ≤ i ∧ i < m) (w : xQcr n dy co pa cp K may ask d q i s left) (el : l0 = xlft n dy co pa K s ask d (q i)) (ev : v = if may (q i) = 1 then xmn9 l0 (cp (q i)) else 0) : xQcr n dy co pa cp K may ask d q (i + 1) (fun k => if k = q i then v else s k) (l0 - v) := by
  have r := h.1 i hi.1 hi.2
  have key : ∀ j : Int, 0 ≤ j → j ≤ i → xlft n dy co pa K (fun k => if k = q i then v else s k) ask d (q j) = xlft n dy co pa K s ask d (q j) := fun j q1 q2 => by
    have rj := h.1 j q1 (by omega)
    refine xlft.cg ⟨rj.1, rj.2.1⟩ (fun x _ _ => ⟨rfl, rfl, rfl, rfl⟩) rfl (fun x r1 r2 r3 r4 => ?_)
    show (if x = q i then v else s x) = s x
    rw [if_neg (fun e => ?_)]
    rw [e] at r4
    by_cases c : j = i
    · rw [c] at r4; omega
    · have := h.2.1 j i q1 (by omega) hi.2; omega
  refine ⟨fun j q1 q2 => ?_, fun _ => ?_⟩
  · rw [key j q1 (by omega)]
    by_cases c : j = i
    · show (if q j = q i then v else s (q j)) = _
      rw [c, if_pos rfl, ← el]
      exact ev
    · show (if q j = q i then v else s (q j)) = _
      rw [if_neg (h.inj q1 (by omega) hi.2)]
      exact w.1 j q1 (by omega)
  · rw [show i + 1 - 1 = i by omega, key i hi.1 (Int.le_refl _), ← el]
    show l0 - v = l0 - (if q i = q i then v else s (q i))
    rw [if_pos rfl]
theorem xQcr.fin (h : xQs n dy K d q m) (w : xQcr n dy co pa cp K may ask d q m s left) : xSd n dy co pa cp K may ask d s := fun k q1 q2 q3 => by
  obtain ⟨i, i1, i2, i3⟩ := h.2.2.1 k q1 q2 q3
  rw [← i3]
  exact w.1 i i1 i2
end XQC
def xyu (Y : Nat → Int → Int) (f : Nat) (k z : Int) : Nat → Int → Int := fun f' k' => if f' = f ∧ k' = k then z else Y f' k'
theorem xyu.s {Y : Nat → Int → Int} {f : Nat} {k z : Int} : xyu Y f k z f k = z := if_pos ⟨rfl, rfl⟩
theorem xyu.f {Y : Nat → Int → Int} {f f' : Nat} {k k' z : Int} (h : f' ≠ f) : xyu Y f k z f' k' = Y f' k' := if_neg (fun q => h q.1)
theorem xyu.k {Y : Nat → Int → Int} {f f' : Nat} {k k' z : Int} (h : k' ≠ k) : xyu Y f k z f' k' = Y f' k' := if_neg (fun q => h q.2)
def xF9 (YB Y : Nat → Int → Int) (ow sk : Int → Int) (k : Int) : Int → Int := xfct (YB 2 (Y 0 k)) (YB 1 (Y 0 k)) (YB 3 (Y 0 k)) (YB 4 (Y 0 k)) (if ow (Y 2 k) = Y 0 k then 1 else 0) (Y 4 k) (Y 5 k) (Y 1 k) (Y 2 k) (Y 3 k) (sk (Y 5 k))
def xbk9 (T : List xL3) (F : Int → Int → Int) (cp s : Int → Int) (k : Int) : Int := (cp k - s k) * xts9 T (F k) 2 / 100
def xin9 (T : List xL3) (F : Int → Int → Int) (cp s : Int → Int) (k : Int) : Int := s k * xts9 T (F k) 1 + xbk9 T F cp s k * xts9 T (F k) 0 / 100
def xwh9 (w : Nat) (T : List xL3) (F : Int → Int → Int) (cp s : Int → Int) (k : Int) : Int := if w = 0 then s k else if w = 1 then cp k - s k - xbk9 T F cp s k else xin9 T F cp s k - (cp k * xts9 T (F k) 0 + 99) / 100
theorem xbk9.cg {T : List xL3} {F F' : Int → Int → Int} {cp cp' s s' : Int → Int} {k : Int} (h1 : F k = F' k) (h2 : cp k = cp' k) (h3 : s k = s' k) : xbk9 T F cp s k = xbk9 T F' cp' s' k := by
  unfold xbk9
  rw [h1, h2, h3]
theorem xin9.cg {T : List xL3} {F F' : Int → Int → Int} {cp cp' s s' : Int → Int} {k : Int} (h1 : F k = F' k) (h2 : cp k = cp' k) (h3 : s k = s' k) : xin9 T F cp s k = xin9 T F' cp' s' k := by
  unfold xin9
  rw [xbk9.cg h1 h2 h3, h1, h3]
theorem xwh9.cg {w : Nat} {T : List xL3} {F F' : Int → Int → Int} {cp cp' s s' : Int → Int} {k : Int} (h1 : F k = F' k) (h2 : cp k = cp' k) (h3 : s k = s' k) : xwh9 w T F cp s k = xwh9 w T F' cp' s' k := by
  unfold xwh9
  rw [xbk9.cg h1 h2 h3, xin9.cg h1 h2 h3, h1, h2, h3]
def xCl9 (n : Nat) (nb : Int) (T : List xL3) (F : Int → Int → Int) (Y YB : Nat → Int → Int) (d : Int) (s : Int → Int) (Y1 YB1 : Nat → Int → Int) : Prop := (∀ f : Nat, f ≤ 7 → Y1 f = Y f) ∧ (∀ f : Nat, f ≤ 4 → YB1 f = YB f) ∧ (∀ k : Int, 0 ≤ k → k < n → (Y 5 k = d → Y1 8 k = s k ∧ Y1 9 k = xbk9 T F (Y 3) s k ∧ Y1 10 k = Y 3 k - s k - xbk9 T F (Y 3) s k) ∧ (Y 5 k ≠ d → Y1 8 k = Y 8 k ∧ Y1 9 k = Y 9 k ∧ Y1 10 k = Y 10 k)) ∧ (∀ b : Int, 0 ≤ b → b < nb → YB1 5 b = xwp (YB 5 b + xzm (fun k => if Y 5 k = d ∧ Y 0 k = b then xin9 T F (Y 3) s k else 0) n))
theorem xCl9.det {n : Nat} {nb : Int} {T : List xL3} {F F' : Int → Int → Int} {Y YB : Nat → Int → Int} {d : Int} {s s' : Int → Int} {Y1 YB1 Y2 YB2 : Nat → Int → Int} (h : xCl9 n nb T F Y YB d s Y1 YB1) (h' : xCl9 n nb T F' Y YB d s' Y2 YB2) (hF : ∀ k : Int, 0 ≤ k → k < n → F k = F' k) (hs : ∀ k : Int, 0 ≤ k → k < n → Y 5 k = d → s k = s' k) : (∀ k : Int, 0 ≤ k → k < n → ∀ f : Nat, f ≤ 10 → Y1 f k = Y2 f k) ∧ (∀ b : Int, 0 ≤ b → b < nb → ∀ f : Nat, f ≤ 5 → YB1 f b = YB2 f b) := by
  refine ⟨fun k q1 q2 f hf => ?_, fun b q1 q2 f hf => ?_⟩
  · obtain ⟨a2, a3⟩ := h.2.2.1 k q1 q2
    obtain ⟨b2, b3⟩ := h'.2.2.1 k q1 q2
    by_cases c : f ≤ 7
    · rw [h.1 f c, h'.1 f c]
    · by_cases e : Y 5 k = d
      · obtain ⟨u1, u2, u3⟩ := a2 e
        obtain ⟨v1, v2, v3⟩ := b2 e
        have bk := xbk9.cg (T := T) (cp := Y 3) (cp' := Y 3) (hF k q1 q2) rfl (hs k q1 q2 e)
        rcases (show f = 8 ∨ f = 9 ∨ f = 10 by omega) with w | w | w <;> subst w
        · rw [u1, v1]; exact hs k q1 q2 e
        · rw [u2, v2, bk]
        · rw [u3, v3, bk, hs k q1 q2 e]
      · obtain ⟨u1, u2, u3⟩ := a3 e
        obtain ⟨v1, v2, v3⟩ := b3 e
        rcases (show f = 8 ∨ f = 9 ∨ f = 10 by omega) with w | w | w <;> subst w
        · rw [u1, v1]
        · rw [u2, v2]
        · rw [u3, v3]
  · have a2 := h.2.2.2 b q1 q2
    have b2 := h'.2.2.2 b q1 q2
    by_cases c : f ≤ 4
    · rw [h.2.1 f c, h'.2.1 f c]
    · have e : f = 5 := by omega
      subst e
      rw [a2, b2]
      congr 2
      refine xzm.cg n (fun k r1 r2 => ?_)
      show (if Y 5 k = d ∧ Y 0 k = b then _ else _) = (if Y 5 k = d ∧ Y 0 k = b then _ else _)
      by_cases w : Y 5 k = d ∧ Y 0 k = b
      · rw [if_pos w, if_pos w]; exact xin9.cg (hF k r1 r2) rfl (hs k r1 r2 w.1)
      · rw [if_neg w, if_neg w]
def xup9 (q s : Int → Int) (i v : Int) : Int → Int := fun k => if k = q i then v else s k
def xQd (n : Nat) (nb : Int) (T : List xL3) (F : Int → Int → Int) (Y YB : Nat → Int → Int) (q : Int → Int) (i : Int) (s : Int → Int) (Y1 YB1 : Nat → Int → Int) : Prop := (∀ f : Nat, f ≤ 7 → Y1 f = Y f) ∧ (∀ f : Nat, f ≤ 4 → YB1 f = YB f) ∧ (∀ j : Int, 0 ≤ j → j < i → Y1 8 (q j) = s (q j) ∧ Y1 9 (q j) = xbk9 T F (Y 3) s (q j) ∧ Y1 10 (q j) = Y 3 (q j) - s (q j) - xbk9 T F (Y 3) s (q j)) ∧ (∀ k : Int, 0 ≤ k → k < n → (∀ j : Int, 0 ≤ j → j < i → q j ≠ k) → Y1 8 k = Y 8 k ∧ Y1 9 k = Y 9 k ∧ Y1 10 k = Y 10 k) ∧ (∀ b : Int, 0 ≤ b → b < nb → YB1 5 b = xwp (YB 5 b + xzm (fun j => if Y 0 (q j) = b then xin9 T F (Y 3) s (q j) else 0) i.toNat))
section XQD
variable {n : Nat} {nb m : Int} {T : List xL3} {F : Int → Int → Int} {Y YB Y1 YB1 : Nat → Int → Int} {q s dy K : Int → Int} {d i v : Int}
theorem xup9.at9 : xup9 q s i v (q i) = v := if_pos rfl
theorem xup9.o {k : Int} (h : k ≠ q i) : xup9 q s i v k = s k := if_neg h
theorem xQd.z (hc : ∀ b : Int, 0 ≤ b → b < nb → -2147483648 ≤ YB 5 b ∧ YB 5 b ≤ 2147483647) : xQd n nb T F Y YB q 0 s Y YB := ⟨fun _ _ => rfl, fun _ _ => rfl, fun j q1 q2 => by omega, fun _ _ _ _ => ⟨rfl, rfl, rfl⟩, fun b q1 q2 => by
  show YB 5 b = xwp (YB 5 b + 0)
  rw [Int.add_zero, xwp.id (hc b q1 q2)]⟩
theorem xzm.st (f g : Int → Int) (hi : 0 ≤ i) (h : ∀ j : Int, 0 ≤ j → j < i → f j = g j) : xzm f (i + 1).toNat = xzm g i.toNat + f i := by
  rw [show (i + 1).toNat = i.toNat + 1 by omega]
  show xzm f i.toNat + f ((i.toNat : Nat) : Int) = _
  rw [show ((i.toNat : Nat) : Int) = i by omega, xzm.cg i.toNat (fun j q1 q2 => h j q1 (by omega))]
theorem xQd.nx {bk ea b0 c0 : Int} (hq : xQs n dy K d q m) (hi : 0 ≤ i ∧ i < m) (h : xQd n nb T F Y YB q i s Y1 YB1) (e0 : b0 = Y 0 (q i)) (ebk : bk = (Y 3 (q i) - v) * xts9 T (F (q i)) 2 / 100) (eea : ea = Y 3 (q i) - v - bk) (ec : c0 = xwp (YB1 5 b0 + (v * xts9 T (F (q i)) 1 + bk * xts9 T (F (q i)) 0 / 100))) : xQd n nb T F Y YB q (i + 1) (xup9 q s i v) (xyu (xyu (xyu Y1 8 (q i) v) 9 (q i) bk) 10 (q i) ea) (xyu YB1 5 b0 c0) := by
  obtain ⟨h1, h0, h2, h3, h4⟩ := h
  have hb : bk = xbk9 T F (Y 3) (xup9 q s i v) (q i) := by unfold xbk9; rw [xup9.at9]; exact ebk
  have hn : ∀ j : Int, 0 ≤ j → j < i → q j ≠ q i := fun j q1 q2 => hq.inj q1 q2 hi.2
  refine ⟨fun f hf => ?_, fun f hf => ?_, fun j q1 q2 => ?_, fun k q1 q2 hk => ?_, fun b q1 q2 => ?_⟩
  · funext k
    rw [xyu.f (by omega), xyu.f (by omega), xyu.f (by omega), h1 f hf]
  · funext k
    rw [xyu.f (by omega), h0 f hf]
  · by_cases c : j = i
    · rw [c]
      refine ⟨?_, ?_, ?_⟩
      · rw [xyu.f (by omega), xyu.f (by omega), xyu.s, xup9.at9]
      · rw [xyu.f (by omega), xyu.s]; exact hb
      · rw [xyu.s, xup9.at9, ← hb]; exact eea
    · have w := hn j q1 (by omega)
      obtain ⟨a1, a2, a3⟩ := h2 j q1 (by omega)
      have hs : xup9 q s i v (q j) = s (q j) := xup9.o w
      have hk := xbk9.cg (T := T) (F := F) (F' := F) (cp := Y 3) (cp' := Y 3) (k := q j) rfl rfl hs
      rw [xyu.k w, xyu.k w, xyu.k w, xyu.k w, xyu.k w, xyu.k w, xyu.k w, xyu.k w, xyu.k w, hs, hk]
      exact ⟨a1, a2, a3⟩
  · have w : k ≠ q i := fun e => hk i hi.1 (by omega) e.symm
    rw [xyu.k w, xyu.k w, xyu.k w, xyu.k w, xyu.k w, xyu.k w, xyu.k w, xyu.k w, xyu.k w]
    exact h3 k q1 q2 (fun j r1 r2 => hk j r1 (by omega))
  · have a2 := h4 b q1 q2
    have st := xzm.st (i := i) (fun j => if Y 0 (q j) = b then xin9 T F (Y 3) (xup9 q s i v) (q j) else 0) (fun j => if Y 0 (q j) = b then xin9 T F (Y 3) s (q j) else 0) hi.1 (fun j r1 r2 => by
      show (if _ then _ else _) = (if _ then _ else _)
      by_cases w : Y 0 (q j) = b
      · rw [if_pos w, if_pos w]; exact xin9.cg rfl rfl (xup9.o (hn j r1 r2))
      · rw [if_neg w, if_neg w])
    rw [st]
    by_cases e : b = b0
    · have ei : xin9 T F (Y 3) (xup9 q s i v) (q i) = v * xts9 T (F (q i)) 1 + bk * xts9 T (F (q i)) 0 / 100 := by unfold xin9; rw [← hb, xup9.at9]
      rw [e, xyu.s, ec, ← e, a2]
      show _ = xwp (YB 5 b + (_ + (if Y 0 (q i) = b then xin9 T F (Y 3) (xup9 q s i v) (q i) else 0)))
      rw [if_pos (by rw [e, e0]), ei, xwp.add, Int.add_assoc]
    · rw [xyu.k e, a2]
      show _ = xwp (YB 5 b + (_ + (if Y 0 (q i) = b then xin9 T F (Y 3) (xup9 q s i v) (q i) else 0)))
      rw [if_neg (fun z => e (by rw [← z, e0])), Int.add_zero]
theorem xQd.fin (hq : xQs n (Y 5) K d q m) (h : xQd n nb T F Y YB q m s Y1 YB1) : xCl9 n nb T F Y YB d s Y1 YB1 := by
  obtain ⟨h1, h0, h2, h3, h4⟩ := h
  refine ⟨h1, h0, fun k q1 q2 => ⟨fun e => ?_, fun e => ?_⟩, fun b q1 q2 => ?_⟩
  · obtain ⟨i, i1, i2, i3⟩ := hq.2.2.1 k q1 q2 e
    rw [← i3]
    exact h2 i i1 i2
  · refine h3 k q1 q2 (fun j r1 r2 z => e ?_)
    rw [← z]
    exact (hq.1 j r1 r2).2.2
  · have a2 := h4 b q1 q2
    rw [a2, hq.sum (fun k => if Y 0 k = b then xin9 T F (Y 3) s k else 0)]
    congr 2
    refine xzm.cg n (fun k r1 r2 => ?_)
    show (if Y 5 k = d then (if Y 0 k = b then _ else _) else _) = (if Y 5 k = d ∧ Y 0 k = b then _ else _)
    by_cases c : Y 5 k = d
    · by_cases e : Y 0 k = b
      · rw [if_pos c, if_pos e, if_pos ⟨c, e⟩]
      · rw [if_pos c, if_neg e, if_neg (fun z => e z.2)]
    · rw [if_neg c, if_neg (fun z => c z.1)]
theorem xqm.nx {w : Nat} {cp : Int → Int} {z0 z1 : Int} (hq : xQs n dy K d q m) (hi : 0 ≤ i ∧ i < m) (h : z0 = xwp (v + xzm (fun j => xwh9 w T F cp s (q j)) i.toNat)) {u : Int} (h1 : z1 = xwp (z0 + xwh9 w T F cp (xup9 q s i u) (q i))) : z1 = xwp (v + xzm (fun j => xwh9 w T F cp (xup9 q s i u) (q j)) (i + 1).toNat) := by
  have st := xzm.st (i := i) (fun j => xwh9 w T F cp (xup9 q s i u) (q j)) (fun j => xwh9 w T F cp s (q j)) hi.1 (fun j r1 r2 => xwh9.cg rfl rfl (xup9.o (hq.inj r1 r2 hi.2)))
  rw [st, h1, h, xwp.add, Int.add_assoc]
end XQD
