
def xzm (f : Int → Int) : Nat → Int
  | 0 => 0
  | k + 1 => xzm f k + f (k : Int)
theorem xzm.cg {f f' : Int → Int} : ∀ n : Nat, (∀ i : Int, 0 ≤ i → i < n → f i = f' i) → xzm f n = xzm f' n := by
  intro n
  induction n with
  | zero => intro _; rfl
  | succ n ih =>
    intro h
    show xzm f n + f (n : Int) = xzm f' n + f' (n : Int)
    rw [ih (fun i q1 q2 => h i q1 (by omega)), h n (by omega) (by omega)]
theorem xzm.z {f : Int → Int} : ∀ n : Nat, (∀ i : Int, 0 ≤ i → i < n → f i = 0) → xzm f n = 0 := by
  intro n
  induction n with
  | zero => intro _; rfl
  | succ n ih =>
    intro h
    show xzm f n + f (n : Int) = 0
    rw [ih (fun i q1 q2 => h i q1 (by omega)), h n (by omega) (by omega)]
    rfl
theorem xzm.up {f f' : Int → Int} {j v : Int} (h1 : f' j = f j + v) (h2 : ∀ i : Int, 0 ≤ i → i ≠ j → f' i = f i) : ∀ n : Nat, 0 ≤ j → j < n → xzm f' n = xzm f n + v := by
  intro n
  induction n with
  | zero => intro q1 q2; omega
  | succ n ih =>
    intro q1 q2
    show xzm f' n + f' (n : Int) = xzm f n + f (n : Int) + v
    by_cases e : j = n
    · rw [xzm.cg (f := f') (f' := f) n (fun i r1 r2 => h2 i r1 (by omega)), ← e, h1]
      omega
    · rw [ih q1 (by omega), h2 n (by omega) (by omega)]
      omega
theorem xzm.up' {f f' : Int → Int} {j v : Int} (n : Nat) (h1 : f' j = f j + v) (h2 : ∀ i : Int, 0 ≤ i → i < n → i ≠ j → f' i = f i) (q1 : 0 ≤ j) (q2 : j < n) : xzm f' n = xzm f n + v := by
  have e : xzm f' n = xzm (fun i => if i = j then f j + v else f i) n := xzm.cg n (fun i r1 r2 => by
    by_cases c : i = j
    · rw [if_pos c, c]; exact h1
    · rw [if_neg c]; exact h2 i r1 r2 c)
  rw [e]
  exact xzm.up (f := f) (f' := fun i => if i = j then f j + v else f i) (j := j) (v := v) (if_pos rfl) (fun i _ c => if_neg c) n q1 q2
def xmn9 (a b : Int) : Int := if a ≤ b then a else b
def xlft (n : Nat) (dy co pa K s : Int → Int) (ask : Int → Int → Int) (d k : Int) : Int := ask (co k) (pa k) - xzm (fun j => if dy j = d ∧ co j = co k ∧ pa j = pa k ∧ K j < K k then s j else 0) n
def xSd (n : Nat) (dy co pa cp K may : Int → Int) (ask : Int → Int → Int) (d : Int) (s : Int → Int) : Prop := ∀ k : Int, 0 ≤ k → k < n → dy k = d → s k = if may k = 1 then xmn9 (xlft n dy co pa K s ask d k) (cp k) else 0
section XSD
variable {n : Nat} {dy co pa cp K may dy' co' pa' cp' K' may' : Int → Int} {ask ask' : Int → Int → Int} {d : Int} {s s' : Int → Int}
theorem xlft.cg {k : Int} (hk : 0 ≤ k ∧ k < n) (hp : ∀ j : Int, 0 ≤ j → j < n → dy j = dy' j ∧ co j = co' j ∧ pa j = pa' j ∧ K j = K' j) (ha : ask (co k) (pa k) = ask' (co k) (pa k)) (hs : ∀ j : Int, 0 ≤ j → j < n → dy j = d → K j < K k → s j = s' j) : xlft n dy co pa K s ask d k = xlft n dy' co' pa' K' s' ask' d k := by
  obtain ⟨k1, k2, k3, k4⟩ := hp k hk.1 hk.2
  unfold xlft
  rw [← k2, ← k3, ha]
  congr 1
  refine xzm.cg n (fun j q1 q2 => ?_)
  obtain ⟨j1, j2, j3, j4⟩ := hp j q1 q2
  rw [← j1, ← j2, ← j3, ← j4, ← k4]
  by_cases c : dy j = d ∧ co j = co k ∧ pa j = pa k ∧ K j < K k
  · rw [if_pos c, if_pos c]; exact hs j q1 q2 c.1 c.2.2.2
  · rw [if_neg c, if_neg c]
theorem xSd.det (hK : ∀ k : Int, 0 ≤ k → k < n → 0 ≤ K k) (hp : ∀ j : Int, 0 ≤ j → j < n → dy j = dy' j ∧ co j = co' j ∧ pa j = pa' j ∧ K j = K' j) (hq : ∀ j : Int, 0 ≤ j → j < n → dy j = d → cp j = cp' j ∧ may j = may' j ∧ ask (co j) (pa j) = ask' (co j) (pa j)) (h : xSd n dy co pa cp K may ask d s) (h' : xSd n dy' co' pa' cp' K' may' ask' d s') : ∀ k : Int, 0 ≤ k → k < n → dy k = d → s k = s' k := by
  have key : ∀ (m : Nat) (k : Int), 0 ≤ k → k < n → dy k = d → K k < m → s k = s' k := by
    intro m
    induction m with
    | zero => intro k q1 q2 q3 q4; have := hK k q1 q2; omega
    | succ m ih =>
      intro k q1 q2 q3 q4
      have e := hp k q1 q2
      obtain ⟨e1, e2, e3⟩ := hq k q1 q2 q3
      have l := xlft.cg (s := s) (s' := s') (d := d) ⟨q1, q2⟩ hp e3 (fun j r1 r2 r3 r4 => ih j r1 r2 r3 (by omega))
      rw [h k q1 q2 q3, h' k q1 q2 (by rw [← e.1]; exact q3), ← e2, l, ← e1]
  intro k q1 q2 q3
  exact key ((K k).toNat + 1) k q1 q2 q3 (by omega)
end XSD
def xQs (n : Int) (dy K : Int → Int) (d : Int) (q : Int → Int) (m : Int) : Prop := (∀ i : Int, 0 ≤ i → i < m → 0 ≤ q i ∧ q i < n ∧ dy (q i) = d) ∧ (∀ i j : Int, 0 ≤ i → i < j → j < m → K (q i) < K (q j)) ∧ (∀ k : Int, 0 ≤ k → k < n → dy k = d → ∃ i, 0 ≤ i ∧ i < m ∧ q i = k) ∧ 0 ≤ m ∧ m ≤ n
section XQS
variable {n m : Int} {dy K q q' : Int → Int} {d : Int}
theorem xQs.zero : xQs 0 dy K d q 0 := ⟨fun i q1 q2 => by omega, fun i j q1 q2 q3 => by omega, fun k q1 q2 => by omega, by omega, by omega⟩
theorem xQs.skip (h : xQs n dy K d q m) (c : dy n ≠ d) : xQs (n + 1) dy K d q m := by
  obtain ⟨h1, h2, h3, h4, h5⟩ := h
  refine ⟨fun i q1 q2 => ?_, h2, fun k q1 q2 q3 => ?_, h4, by omega⟩
  · obtain ⟨a, b, e⟩ := h1 i q1 q2
    exact ⟨a, by omega, e⟩
  · by_cases e : k = n
    · rw [e] at q3; exact absurd q3 c
    · exact h3 k q1 (by omega) q3
theorem xQs.ins {p : Int} (h : xQs n dy K d q m) (c : dy n = d) (hp : 0 ≤ p ∧ p ≤ m) (hlo : p = 0 ∨ K (q (p - 1)) < K n) (hhi : ∀ i : Int, p ≤ i → i < m → K n < K (q i)) (e1 : ∀ i : Int, 0 ≤ i → i < p → q' i = q i) (e2 : q' p = n) (e3 : ∀ i : Int, p < i → i ≤ m → q' i = q (i - 1)) : xQs (n + 1) dy K d q' (m + 1) := by
  obtain ⟨h1, h2, h3, h4, h5⟩ := h
  have lo : ∀ i : Int, 0 ≤ i → i < p → K (q i) < K n := fun i q1 q2 => by
    by_cases e : i = p - 1
    · rw [e]; rcases hlo with z | z
      · omega
      · exact z
    · have := h2 i (p - 1) q1 (by omega) (by omega)
      rcases hlo with z | z
      · omega
      · omega
  refine ⟨fun i q1 q2 => ?_, fun i j q1 q2 q3 => ?_, fun k q1 q2 q3 => ?_, by omega, by omega⟩
  · rcases (show i < p ∨ i = p ∨ p < i by omega) with w | w | w
    · rw [e1 i q1 w]; obtain ⟨a, b, e⟩ := h1 i q1 (by omega); exact ⟨a, by omega, e⟩
    · rw [w, e2]; exact ⟨by omega, by omega, c⟩
    · rw [e3 i w (by omega)]; obtain ⟨a, b, e⟩ := h1 (i - 1) (by omega) (by omega); exact ⟨a, by omega, e⟩
  · rcases (show j < p ∨ j = p ∨ p < j by omega) with w | w | w
    · rw [e1 i q1 (by omega), e1 j (by omega) w]; exact h2 i j q1 q2 (by omega)
    · rw [w, e2, e1 i q1 (by omega)]; exact lo i q1 (by omega)
    · rw [e3 j w (by omega)]
      rcases (show i < p ∨ i = p ∨ p < i by omega) with u | u | u
      · rw [e1 i q1 u]
        have a := lo i q1 u
        have b := hhi (j - 1) (by omega) (by omega)
        omega
      · rw [u, e2]; exact hhi (j - 1) (by omega) (by omega)
      · rw [e3 i u (by omega)]; exact h2 (i - 1) (j - 1) (by omega) (by omega) (by omega)
  · by_cases e : k = n
    · exact ⟨p, by omega, by omega, by rw [e2, e]⟩
    · obtain ⟨i, i1, i2, i3⟩ := h3 k q1 (by omega) q3
      by_cases w : i < p
      · exact ⟨i, i1, by omega, by rw [e1 i i1 w]; exact i3⟩
      · exact ⟨i + 1, by omega, by omega, by rw [e3 (i + 1) (by omega) (by omega), show i + 1 - 1 = i by omega]; exact i3⟩
end XQS
section XQP
variable {n : Nat} {m : Int} {dy co pa K q s : Int → Int} {ask : Int → Int → Int} {d : Int}
theorem xQs.first (h : xQs n dy K d q m) {i : Int} (hi : 0 ≤ i ∧ i < m) (hKp : ∀ j k : Int, 0 ≤ j → j < n → 0 ≤ k → k < n → 4 * co j + pa j < 4 * co k + pa k → K j < K k) (hr : ∀ j : Int, 0 ≤ j → j < n → 0 ≤ pa j ∧ pa j ≤ 3) (c : i = 0 ∨ co (q (i - 1)) ≠ co (q i) ∨ pa (q (i - 1)) ≠ pa (q i)) : xlft n dy co pa K s ask d (q i) = ask (co (q i)) (pa (q i)) := by
  obtain ⟨h1, h2, h3, h4, h5⟩ := h
  unfold xlft
  rw [xzm.z n (fun j q1 q2 => ?_)]
  · omega
  · by_cases w : dy j = d ∧ co j = co (q i) ∧ pa j = pa (q i) ∧ K j < K (q i)
    · exfalso
      obtain ⟨w1, w2, w3, w4⟩ := w
      obtain ⟨a, a1, a2, a3⟩ := h3 j q1 q2 w1
      have ai : a < i := by
        rcases (show a < i ∨ a = i ∨ i < a by omega) with z | z | z
        · exact z
        · rw [← a3, z] at w4; omega
        · have := h2 i a hi.1 z a2; rw [a3] at this; omega
      have r1 := h1 i hi.1 hi.2
      have r2 := h1 (i - 1) (by omega) (by omega)
      have k1 := h2 (i - 1) i (by omega) (by omega) hi.2
      have k2 : a = i - 1 ∨ K j < K (q (i - 1)) := by
        by_cases z : a = i - 1
        · exact Or.inl z
        · have := h2 a (i - 1) a1 (by omega) (by omega); rw [a3] at this; exact Or.inr this
      have p1 := hr j q1 q2
      have p2 := hr (q i) r1.1 r1.2.1
      have p3 := hr (q (i - 1)) r2.1 r2.2.1
      have m1 := hKp (q i) (q (i - 1)) r1.1 r1.2.1 r2.1 r2.2.1
      have m2 := hKp (q (i - 1)) j r2.1 r2.2.1 q1 q2
      rcases k2 with z | z
      · rw [z] at a3; rw [a3] at c; omega
      · omega
    · rw [if_neg w]
theorem xQs.next (h : xQs n dy K d q m) {i : Int} (hi : 0 ≤ i ∧ i + 1 < m) (c : co (q i) = co (q (i + 1)) ∧ pa (q i) = pa (q (i + 1))) : xlft n dy co pa K s ask d (q (i + 1)) = xlft n dy co pa K s ask d (q i) - s (q i) := by
  obtain ⟨h1, h2, h3, h4, h5⟩ := h
  have r1 := h1 i hi.1 (by omega)
  have kk := h2 i (i + 1) hi.1 (by omega) hi.2
  unfold xlft
  rw [← c.1, ← c.2]
  have e := xzm.up' (f := fun j => if dy j = d ∧ co j = co (q i) ∧ pa j = pa (q i) ∧ K j < K (q i) then s j else 0) (f' := fun j => if dy j = d ∧ co j = co (q i) ∧ pa j = pa (q i) ∧ K j < K (q (i + 1)) then s j else 0) (j := q i) (v := s (q i)) n (by
    show (if dy (q i) = d ∧ co (q i) = co (q i) ∧ pa (q i) = pa (q i) ∧ K (q i) < K (q (i + 1)) then s (q i) else 0) = (if dy (q i) = d ∧ co (q i) = co (q i) ∧ pa (q i) = pa (q i) ∧ K (q i) < K (q i) then s (q i) else 0) + s (q i)
    rw [if_pos ⟨r1.2.2, rfl, rfl, kk⟩, if_neg (fun z => by have := z.2.2.2; omega)]
    omega) (fun j q1 q2 q3 => by
    show (if dy j = d ∧ co j = co (q i) ∧ pa j = pa (q i) ∧ K j < K (q (i + 1)) then s j else 0) = (if dy j = d ∧ co j = co (q i) ∧ pa j = pa (q i) ∧ K j < K (q i) then s j else 0)
    by_cases w : dy j = d ∧ co j = co (q i) ∧ pa j = pa (q i) ∧ K j < K (q (i + 1))
    · obtain ⟨a, a1, a2, a3⟩ := h3 j q1 q2 w.1
      have : a < i := by
        rcases (show a < i ∨ a = i ∨ a = i + 1 ∨ i + 1 < a by omega) with z | z | z | z
        · exact z
        · rw [z] at a3; exact absurd a3.symm q3
        · have := w.2.2.2; rw [← a3, z] at this; omega
        · have := h2 (i + 1) a (by omega) z a2; rw [a3] at this; have := w.2.2.2; omega
      have k2 := h2 a i a1 this (by omega)
      rw [a3] at k2
      rw [if_pos w, if_pos ⟨w.1, w.2.1, w.2.2.1, k2⟩]
    · rw [if_neg w, if_neg (fun z => w ⟨z.1, z.2.1, z.2.2.1, by have := z.2.2.2; omega⟩)]) r1.1 r1.2.1
  rw [e]
  omega
end XQP
def xCr (n : Nat) (dy co pa cp K may : Int → Int) (ask : Int → Int → Int) (d : Int) (cr s : Int → Int) : Prop := (∀ k : Int, 0 ≤ k → k < n → dy k = d → cr k = 1 → s k = if may k = 1 then xmn9 (xlft n dy co pa K s ask d k) (cp k) else 0) ∧ (∀ k j : Int, 0 ≤ k → k < n → 0 ≤ j → j < n → dy k = d → dy j = d → cr k = 1 → co j = co k → pa j = pa k → K j < K k → cr j = 1)
def xLs9 (n : Nat) (dy co pa : Int → Int) (ask : Int → Int → Int) (d : Int) (cr s : Int → Int) (c p : Int) : Int := ask c p - xzm (fun j => if dy j = d ∧ co j = c ∧ pa j = p ∧ cr j = 1 then s j else 0) n
section XCR
variable {n : Nat} {dy co pa cp K may cr s cr' s' : Int → Int} {ask : Int → Int → Int} {d c p x : Int}
theorem xCr.z (h : ∀ k : Int, 0 ≤ k → k < n → dy k = d → cr k ≠ 1) : xCr n dy co pa cp K may ask d cr s := ⟨fun k q1 q2 q3 q4 => absurd q4 (h k q1 q2 q3), fun k j q1 q2 q3 q4 q5 q6 q7 => absurd q7 (h k q1 q2 q5)⟩
theorem xCr.left (h : xCr n dy co pa cp K may ask d cr s) (hx : 0 ≤ x ∧ x < n) (hd : dy x = d) (hc : co x = c ∧ pa x = p) (hn : cr x ≠ 1) (hm : ∀ j : Int, 0 ≤ j → j < n → dy j = d → co j = c → pa j = p → cr j ≠ 1 → K x ≤ K j) (hi : ∀ j : Int, 0 ≤ j → j < n → j ≠ x → K j ≠ K x) : xlft n dy co pa K s ask d x = xLs9 n dy co pa ask d cr s c p := by
  unfold xlft xLs9
  rw [hc.1, hc.2]
  congr 1
  refine xzm.cg n (fun j q1 q2 => ?_)
  by_cases w : dy j = d ∧ co j = c ∧ pa j = p
  · by_cases e : cr j = 1
    · have ne : j ≠ x := fun z => hn (by rw [← z]; exact e)
      have kk : K j < K x := by
        by_cases z : K x < K j
        · exact absurd (h.2 j x q1 q2 hx.1 hx.2 w.1 hd e (by rw [hc.1, w.2.1]) (by rw [hc.2, w.2.2]) z) hn
        · have := hi j q1 q2 ne; omega
      rw [if_pos ⟨w.1, w.2.1, w.2.2, kk⟩, if_pos ⟨w.1, w.2.1, w.2.2, e⟩]
    · have := hm j q1 q2 w.1 w.2.1 w.2.2 e
      rw [if_neg (fun z => by have := z.2.2.2; omega), if_neg (fun z => e z.2.2.2)]
  · rw [if_neg (fun z => w ⟨z.1, z.2.1, z.2.2.1⟩), if_neg (fun z => w ⟨z.1, z.2.1, z.2.2.1⟩)]
theorem xCr.step (h : xCr n dy co pa cp K may ask d cr s) (hx : 0 ≤ x ∧ x < n) (hd : dy x = d) (hc : co x = c ∧ pa x = p) (hn : cr x ≠ 1) (hm : ∀ j : Int, 0 ≤ j → j < n → dy j = d → co j = c → pa j = p → cr j ≠ 1 → K x ≤ K j) (hi : ∀ j : Int, 0 ≤ j → j < n → j ≠ x → K j ≠ K x) (c1 : cr' x = 1) (c2 : ∀ j : Int, 0 ≤ j → j ≠ x → cr' j = cr j) (s1 : s' x = if may x = 1 then xmn9 (xLs9 n dy co pa ask d cr s c p) (cp x) else 0) (s2 : ∀ j : Int, 0 ≤ j → j ≠ x → s' j = s j) : xCr n dy co pa cp K may ask d cr' s' ∧ xLs9 n dy co pa ask d cr' s' c p = xLs9 n dy co pa ask d cr s c p - s' x := by
  have l := h.left hx hd hc hn hm hi
  refine ⟨⟨fun k q1 q2 q3 q4 => ?_, fun k j q1 q2 q3 q4 q5 q6 q7 q8 q9 q10 => ?_⟩, ?_⟩
  · by_cases e : k = x
    · subst e
      have l2 : xlft n dy co pa K s' ask d k = xlft n dy co pa K s ask d k := xlft.cg hx (fun j _ _ => ⟨rfl, rfl, rfl, rfl⟩) rfl (fun j r1 r2 r3 r4 => s2 j r1 (fun z => by rw [z] at r4; omega))
      rw [l2, l, s1]
    · have ck : cr k = 1 := by rw [← c2 k q1 e]; exact q4
      have l2 : xlft n dy co pa K s' ask d k = xlft n dy co pa K s ask d k := by
        unfold xlft
        congr 1
        refine xzm.cg n (fun j r1 r2 => ?_)
        by_cases w : dy j = d ∧ co j = co k ∧ pa j = pa k ∧ K j < K k
        · have cj := h.2 k j q1 q2 r1 r2 q3 w.1 ck w.2.1 w.2.2.1 w.2.2.2
          rw [if_pos w, if_pos w]
          exact s2 j r1 (fun z => hn (by rw [← z]; exact cj))
        · rw [if_neg w, if_neg w]
      rw [s2 k q1 e, l2]
      exact h.1 k q1 q2 q3 ck
  · by_cases ej : j = x
    · rw [ej]; exact c1
    · rw [c2 j q3 ej]
      by_cases e : k = x
      · rw [e] at q8 q9 q10
        by_cases z : cr j = 1
        · exact z
        · have := hm j q3 q4 q6 (by rw [q8]; exact hc.1) (by rw [q9]; exact hc.2) z
          omega
      · exact h.2 k j q1 q2 q3 q4 q5 q6 (by rw [← c2 k q1 e]; exact q7) q8 q9 q10
  · unfold xLs9
    rw [xzm.up' (f := fun j => if dy j = d ∧ co j = c ∧ pa j = p ∧ cr j = 1 then s j else 0) (f' := fun j => if dy j = d ∧ co j = c ∧ pa j = p ∧ cr' j = 1 then s' j else 0) (j := x) (v := s' x) n (by
      show (if dy x = d ∧ co x = c ∧ pa x = p ∧ cr' x = 1 then s' x else 0) = (if dy x = d ∧ co x = c ∧ pa x = p ∧ cr x = 1 then s x else 0) + s' x
      rw [if_pos ⟨hd, hc.1, hc.2, c1⟩, if_neg (fun z => hn z.2.2.2)]
      omega) (fun j r1 r2 r3 => by
      show (if dy j = d ∧ co j = c ∧ pa j = p ∧ cr' j = 1 then s' j else 0) = (if dy j = d ∧ co j = c ∧ pa j = p ∧ cr j = 1 then s j else 0)
      rw [c2 j r1 r3, s2 j r1 r3]) hx.1 hx.2]
    omega
theorem xCr.fin (h : xCr n dy co pa cp K may ask d cr s) (ha : ∀ k : Int, 0 ≤ k → k < n → dy k = d → cr k = 1) : xSd n dy co pa cp K may ask d s := fun k q1 q2 q3 => h.1 k q1 q2 q3 (ha k q1 q2 q3)
theorem xLs9.new (h : ∀ k : Int, 0 ≤ k → k < n → dy k = d → cr k = 1 → ¬ (co k = c ∧ pa k = p)) : xLs9 n dy co pa ask d cr s c p = ask c p := by
  unfold xLs9
  rw [xzm.z n (fun j q1 q2 => if_neg (fun z => h j q1 q2 z.1 z.2.2.2 ⟨z.2.1, z.2.2.1⟩))]
  omega
end XCR
def xfct (sc ag fi bd ow ho dy pp co cp sk : Int) : Int → Int := fun f => if f = 0 then sc else if f = 1 then (if dy ≤ bd then 1 else 0) else if f = 2 then ow else if f = 3 then ag else if f = 4 then ho else if f = 5 then dy % 7 else if f = 6 then dy else if f = 7 then pp else if f = 8 then co else if f = 9 then cp else if f = 10 then sk else fi
theorem xFa.mk {f F : Int → Int} (h0 : f 0 = F 0) (h1 : f 1 = F 1) (h2 : f 2 = F 2) (h3 : f 3 = F 3) (h4 : f 4 = F 4) (h5 : f 5 = F 5) (h6 : f 6 = F 6) (h7 : f 7 = F 7) (h8 : f 8 = F 8) (h9 : f 9 = F 9) (h10 : f 10 = F 10) (h11 : f 11 = F 11) : xFa f F := fun i q1 q2 => by
  rcases (show i = 0 ∨ i = 1 ∨ i = 2 ∨ i = 3 ∨ i = 4 ∨ i = 5 ∨ i = 6 ∨ i = 7 ∨ i = 8 ∨ i = 9 ∨ i = 10 ∨ i = 11 by omega) with e | e | e | e | e | e | e | e | e | e | e | e <;> subst e <;> assumption
theorem xfct.b {sc ag fi bd ow ho dy pp co cp sk : Int} (h0 : sc = 0 ∨ sc = 1) (h2 : ow = 0 ∨ ow = 1) : xFb (xfct sc ag fi bd ow ho dy pp co cp sk) := fun i q1 q2 => by
  rcases (show i = 0 ∨ i = 1 ∨ i = 2 by omega) with e | e | e <;> subst e
  · exact h0
  · show (if dy ≤ bd then (1 : Int) else 0) = 0 ∨ (if dy ≤ bd then (1 : Int) else 0) = 1
    split <;> omega
  · exact h2
def xky9 (co pa ho ow fi : Int) : Int := 100 * (2 * (32 * (4 * co + pa) + ho) + (1 - ow)) + (99 - fi)
theorem xow01 (P : Prop) [Decidable P] : 0 ≤ (if P then (1 : Int) else 0) ∧ (if P then (1 : Int) else 0) ≤ 1 := by
  by_cases c : P
  · rw [if_pos c]; omega
  · rw [if_neg c]; omega
theorem xowE {P : Prop} [Decidable P] {r : Int} (h : r = 1 ↔ P) (h0 : r = 0 ∨ r = 1) : (if P then (1 : Int) else 0) = r := by
  by_cases c : P
  · rw [if_pos c]; exact (h.mpr c).symm
  · rw [if_neg c]
    rcases h0 with q | q
    · exact q.symm
    · exact absurd (h.mp q) c
set_option maxHeartbeats 4000000 in
set_option maxRecDepth 100000 in
theorem m_isOwners (l : Launch) (D : va_G) (kA : Nat → ClassId) (b0 : Nat) (t0 : Nat → Nat) (S : xT) (g : xG) (a0 : Nat) (a1 : Nat) (ct : Nat) (ow : Nat) (yb : Nat) (nu : Int) (co : Int) (hs_a0 : S a0 = some (6, 0)) (hs_a1 : S a1 = some (2, 0)) (ect : g a0 0 = .ref ct) (hs_ct : S ct = some (4, 0)) (eow : g ct 5 = .ref ow) (hs_ow : S ow = some (11400, 10)) (eyb : g a1 0 = .ref yb) (hs_yb : S yb = some (1, 0)) (hnu : (-2147483648) ≤ nu ∧ nu ≤ 2147483647) (enu : g yb 0 = .int (iI nu)) (hco : 0 ≤ co ∧ co ≤ 9) (eco : g a1 2 = .int (iI co)) : xMt l yX5_isOwners cX5_isOwners 2 (some .boolean) 0 0 0 0 D kA b0 t0 [] [.ref a0, .ref a1] S g (fun (r : Option Value) (S1 : xT) (g1 : xG) => S = S1 ∧ g = g1 ∧ ∃ z : Int, r = some (.int (iI z)) ∧ 0 ≤ z ∧ z ≤ 1 ∧ ((z = 1 ↔ xv g ow co = nu))) := by
  refine xEnterZ (by decide) (by simp [lg_sl, Value.category]) [(0, .ref a0), (1, .ref a1)] rfl ?_
  intro K E hK hret _ _ _
  refine X_aloadn hK (i := 0) 0 kd32_28.2.2.2.2.2.2.1 rfl rfl ?_
  refine X_getK hK fl_X5_12_6 hs_a0 ect kd32_28.2.2.2.2.2.2.2.1 ?_
  refine X_getK hK fl_X5_172_4 hs_ct eow kd32_28.2.2.2.2.2.2.2.2.1 ?_
  refine X_aloadn hK (i := 1) 1 kd32_28.2.2.2.2.2.2.2.2.2.1 rfl rfl ?_
  refine X_getK hK fl_X5_80_2 hs_a1 eco kd32_28.2.2.2.2.2.2.2.2.2.2.1 ?_
  refine X_iald hK hs_ow (by decide) sl_11400 (by omega) (by omega) kd32_28.2.2.2.2.2.2.2.2.2.2.2 (fun z1 ez1 lz1 uz1 => ?_)
  have hw2 : xv g ow co = z1 := (xv_e (j := co) ez1 (by omega))
  refine X_aloadn hK (i := 1) 1 kd32_29.1 rfl rfl ?_
  refine X_getK hK fl_X5_49_2 hs_a1 eyb kd32_29.2.1 ?_
  refine X_getK hK fl_X5_175_1 hs_yb enu kd32_29.2.2.1 ?_
  refine X_icmp_ne hK 26 (by omega) (by omega) kd32_29.2.2.2.1 (by decide) (fun c3 => ?_) (fun c3 => ?_)
  · refine X_iconst hK kd32_29.2.2.2.2.2.2.1 ?_
    exact hret _ _ _ _ _ _ _ kd32_29.2.2.2.2.2.2.2.1 (by omega) (by omega) ⟨rfl, rfl, 0, rfl, (by omega), (by omega), (by rw [hw2]; omega)⟩ (Nat.le_refl _) (Nat.le_refl _)
  · refine X_iconst hK kd32_29.2.2.2.2.1 ?_
    refine X_goto hK 27 kd32_29.2.2.2.2.2.1 (by decide) ?_
    exact hret _ _ _ _ _ _ _ kd32_29.2.2.2.2.2.2.2.1 (by omega) (by omega) ⟨rfl, rfl, 1, rfl, (by omega), (by omega), (by rw [hw2]; omega)⟩ (Nat.le_refl _) (Nat.le_refl _)

set_option maxHeartbeats 4000000 in
set_option maxRecDepth 100000 in
theorem m_learn (l : Launch) (D : va_G) (kA : Nat → ClassId) (b0 : Nat) (t0 : Nat → Nat) (S : xT) (g : xG) (a0 : Nat) (a1 : Nat) (ct : Nat) (ow : Nat) (sk : Nat) (fa : Nat) (yb : Nat) (nu : Int) (ag : Int) (sc : Int) (fi : Int) (bd : Int) (pp : Int) (co : Int) (cp : Int) (ho : Int) (dy : Int) (hs_a0 : S a0 = some (6, 0)) (hs_a1 : S a1 = some (2, 0)) (ect : g a0 0 = .ref ct) (hs_ct : S ct = some (4, 0)) (eow : g ct 5 = .ref ow) (hs_ow : S ow = some (11400, 10)) (esk : g ct 0 = .ref sk) (hs_sk : S sk = some (10700, 400)) (efa : g a0 4 = .ref fa) (hs_fa : S fa = some (12000, 12)) (eyb : g a1 0 = .ref yb) (hs_yb : S yb = some (1, 0)) (hnu : (-2147483648) ≤ nu ∧ nu ≤ 2147483647) (enu : g yb 0 = .int (iI nu)) (hag : (-2147483648) ≤ ag ∧ ag ≤ 2147483647) (eag : g yb 1 = .int (iI ag)) (hsc : 0 ≤ sc ∧ sc ≤ 1) (esc : g yb 2 = .int (iI sc)) (hfi : (-2147483648) ≤ fi ∧ fi ≤ 2147483647) (efi : g yb 3 = .int (iI fi)) (hbd : (-2147483648) ≤ bd ∧ bd ≤ 2147483647) (ebd : g yb 4 = .int (iI bd)) (hpp : 0 ≤ pp ∧ pp ≤ 3) (epp : g a1 1 = .int (iI pp)) (hco : 0 ≤ co ∧ co ≤ 9) (eco : g a1 2 = .int (iI co)) (hcp : (-2147483648) ≤ cp ∧ cp ≤ 2147483647) (ecp : g a1 3 = .int (iI cp)) (hho : (-2147483648) ≤ ho ∧ ho ≤ 2147483647) (eho : g a1 4 = .int (iI ho)) (hdy : 0 ≤ dy ∧ dy ≤ 399) (edy : g a1 5 = .int (iI dy)) : xMt l yX5_learn cX5_learn 3 none 1 0 0 21 D kA b0 t0 [(12000, 0)] [.ref a0, .ref a1] S g (fun (r : Option Value) (S1 : xT) (g1 : xG) => S = S1 ∧ r = none ∧ (xFa (xv g1 fa) (xfct sc ag fi bd (if xv g ow co = nu then 1 else 0) ho dy pp co cp (xv g sk dy)))) := by
  refine xEnterV (by decide) (by simp [lg_sl, Value.category]) [(0, .ref a0), (1, .ref a1)] rfl ?_
  intro K E hK hret _ _ _
  refine X_aloadn hK (i := 1) 1 kd32_29.2.2.2.2.2.2.2.2.1 rfl rfl ?_
  refine X_getK hK fl_X5_49_2 hs_a1 eyb kd32_29.2.2.2.2.2.2.2.2.2.1 ?_
  refine X_astoren hK (i := 2) [(2, .ref yb), (0, .ref a0), (1, .ref a1)] kd32_29.2.2.2.2.2.2.2.2.2.2.1 rfl (by decide) rfl ?_
  refine X_aloadn hK (i := 0) 1 kd32_29.2.2.2.2.2.2.2.2.2.2.2 rfl rfl ?_
  refine X_getK hK fl_X5_31_6 hs_a0 efa kd32_30.1 ?_
  refine X_iconst hK kd32_30.2.1 ?_
  refine X_aloadn hK (i := 2) 0 kd32_30.2.2.1 rfl rfl ?_
  refine X_getK hK fl_X5_55_1 hs_yb esc kd32_30.2.2.2.1 ?_
  have J3 : ∀ (z2 : Int) (lz2 : 0 ≤ z2) (uz2 : z2 ≤ 1) (m4 : z2 = sc), X K E 22 [(2, .ref yb), (0, .ref a0), (1, .ref a1)] [.int (iI z2), .int (iI 0), .ref fa] S g 0 0 := by
    intro z2 lz2 uz2 m4
    refine X_iast hK hs_fa (by decide) (by decide) sl_12000 (by omega) (by omega) (by omega) (by omega) kd32_30.2.2.2.2.2.2.2.2.1 (fun g5 hg5 => ?_)
    refine X_aloadn hK (i := 0) 1 kd32_30.2.2.2.2.2.2.2.2.2.1 rfl rfl ?_
    refine X_getK hK fl_X5_31_6 hs_a0 ((xs_a hg5 (xne hs_a0 hs_fa (by decide))).trans efa) kd32_30.2.2.2.2.2.2.2.2.2.2.1 ?_
    refine X_iconst hK kd32_30.2.2.2.2.2.2.2.2.2.2.2 ?_
    refine X_aloadn hK (i := 1) 2 kd32_31.1 rfl rfl ?_
    refine X_getK hK fl_X5_61_2 hs_a1 ((xs_a hg5 (xne hs_a1 hs_fa (by decide))).trans edy) kd32_31.2.1 ?_
    refine X_aloadn hK (i := 2) 0 kd32_31.2.2.1 rfl rfl ?_
    refine X_getK hK fl_X5_64_1 hs_yb ((xs_a hg5 (xne hs_yb hs_fa (by decide))).trans ebd) kd32_31.2.2.2.1 ?_
    have J8 : ∀ (z7 : Int) (lz7 : 0 ≤ z7) (uz7 : z7 ≤ 1) (m9 : z7 = if dy ≤ bd then 1 else 0), X K E 44 [(2, .ref yb), (0, .ref a0), (1, .ref a1)] [.int (iI z7), .int (iI 1), .ref fa] S g5 0 0 := by
      intro z7 lz7 uz7 m9
      refine X_iast hK hs_fa (by decide) (by decide) sl_12000 (by omega) (by omega) (by omega) (by omega) kd32_31.2.2.2.2.2.2.2.2.1 (fun g10 hg10 => ?_)
      refine X_aloadn hK (i := 0) 1 kd32_31.2.2.2.2.2.2.2.2.2.1 rfl rfl ?_
      refine X_getK hK fl_X5_31_6 hs_a0 ((xs_a hg10 (xne hs_a0 hs_fa (by decide))).trans ((xs_a hg5 (xne hs_a0 hs_fa (by decide))).trans efa)) kd32_31.2.2.2.2.2.2.2.2.2.2.1 ?_
      refine X_iconst hK kd32_31.2.2.2.2.2.2.2.2.2.2.2 ?_
      refine X_aloadn hK (i := 0) 1 kd32_32.1 rfl rfl ?_
      refine X_aloadn hK (i := 1) 2 kd32_32.2.1 rfl rfl ?_
      refine X_callV hK [.ref a1] [.int (iI 2), .ref fa] lk_X5_67 (m_isOwners _ _ _ _ _ S g10 a0 a1 ct ow yb nu co hs_a0 hs_a1 ((xs_a hg10 (xne hs_a0 hs_fa (by decide))).trans ((xs_a hg5 (xne hs_a0 hs_fa (by decide))).trans ect)) hs_ct ((xs_a hg10 (xne hs_ct hs_fa (by decide))).trans ((xs_a hg5 (xne hs_ct hs_fa (by decide))).trans eow)) hs_ow ((xs_a hg10 (xne hs_a1 hs_fa (by decide))).trans ((xs_a hg5 (xne hs_a1 hs_fa (by decide))).trans eyb)) hs_yb (by omega) ((xs_a hg10 (xne hs_yb hs_fa (by decide))).trans ((xs_a hg5 (xne hs_yb hs_fa (by decide))).trans enu)) (by omega) ((xs_a hg10 (xne hs_a1 hs_fa (by decide))).trans ((xs_a hg5 (xne hs_a1 hs_fa (by decide))).trans eco))) hs_a0 ⟨by decide, rfl⟩ kd32_32.2.2.1 rfl rfl (by simp [Value.category]) (by decide) (by decide) (by decide) (by decide) (fun r11 S13 g12 pr11 qr11 hg12 => ?_)
      obtain ⟨rfl, rfl, z14, rfl, lz14, uz14, k15⟩ := pr11
      refine X_st [.int (iI z14), .int (iI 2), .ref fa] rfl ?_
      have ho16 := k15
      rw [(Eq.trans (xv_a hg10 (xne hs_ow hs_fa (by decide))) (xv_a hg5 (xne hs_ow hs_fa (by decide))))] at ho16
      have J19 : ∀ (z18 : Int) (lz18 : 0 ≤ z18) (uz18 : z18 ≤ 1) (m20 : z18 = if xv g ow co = nu then 1 else 0), X K E 63 [(2, .ref yb), (0, .ref a0), (1, .ref a1)] [.int (iI z18), .int (iI 2), .ref fa] S g10 0 0 := by
        intro z18 lz18 uz18 m20
        refine X_iast hK hs_fa (by decide) (by decide) sl_12000 (by omega) (by omega) (by omega) (by omega) kd32_32.2.2.2.2.2.2.2.1 (fun g21 hg21 => ?_)
        refine X_aloadn hK (i := 0) 1 kd32_32.2.2.2.2.2.2.2.2.1 rfl rfl ?_
        refine X_getK hK fl_X5_31_6 hs_a0 ((xs_a hg21 (xne hs_a0 hs_fa (by decide))).trans ((xs_a hg10 (xne hs_a0 hs_fa (by decide))).trans ((xs_a hg5 (xne hs_a0 hs_fa (by decide))).trans efa))) kd32_32.2.2.2.2.2.2.2.2.2.1 ?_
        refine X_iconst hK kd32_32.2.2.2.2.2.2.2.2.2.2.1 ?_
        refine X_aloadn hK (i := 2) 0 kd32_32.2.2.2.2.2.2.2.2.2.2.2 rfl rfl ?_
        refine X_getK hK fl_X5_71_1 hs_yb ((xs_a hg21 (xne hs_yb hs_fa (by decide))).trans ((xs_a hg10 (xne hs_yb hs_fa (by decide))).trans ((xs_a hg5 (xne hs_yb hs_fa (by decide))).trans eag))) kd32_33.1 ?_
        refine X_iast hK hs_fa (by decide) (by decide) sl_12000 (by omega) (by omega) (by omega) (by omega) kd32_33.2.1 (fun g22 hg22 => ?_)
        refine X_aloadn hK (i := 0) 1 kd32_33.2.2.1 rfl rfl ?_
        refine X_getK hK fl_X5_31_6 hs_a0 ((xs_a hg22 (xne hs_a0 hs_fa (by decide))).trans ((xs_a hg21 (xne hs_a0 hs_fa (by decide))).trans ((xs_a hg10 (xne hs_a0 hs_fa (by decide))).trans ((xs_a hg5 (xne hs_a0 hs_fa (by decide))).trans efa)))) kd32_33.2.2.2.1 ?_
        refine X_iconst hK kd32_33.2.2.2.2.1 ?_
        refine X_aloadn hK (i := 1) 2 kd32_33.2.2.2.2.2.1 rfl rfl ?_
        refine X_getK hK fl_X5_74_2 hs_a1 ((xs_a hg22 (xne hs_a1 hs_fa (by decide))).trans ((xs_a hg21 (xne hs_a1 hs_fa (by decide))).trans ((xs_a hg10 (xne hs_a1 hs_fa (by decide))).trans ((xs_a hg5 (xne hs_a1 hs_fa (by decide))).trans eho)))) kd32_33.2.2.2.2.2.2.1 ?_
        refine X_iast hK hs_fa (by decide) (by decide) sl_12000 (by omega) (by omega) (by omega) (by omega) kd32_33.2.2.2.2.2.2.2.1 (fun g23 hg23 => ?_)
        refine X_aloadn hK (i := 0) 1 kd32_33.2.2.2.2.2.2.2.2.1 rfl rfl ?_
        refine X_getK hK fl_X5_31_6 hs_a0 ((xs_a hg23 (xne hs_a0 hs_fa (by decide))).trans ((xs_a hg22 (xne hs_a0 hs_fa (by decide))).trans ((xs_a hg21 (xne hs_a0 hs_fa (by decide))).trans ((xs_a hg10 (xne hs_a0 hs_fa (by decide))).trans ((xs_a hg5 (xne hs_a0 hs_fa (by decide))).trans efa))))) kd32_33.2.2.2.2.2.2.2.2.2.1 ?_
        refine X_iconst hK kd32_33.2.2.2.2.2.2.2.2.2.2.1 ?_
        refine X_aloadn hK (i := 1) 2 kd32_33.2.2.2.2.2.2.2.2.2.2.2 rfl rfl ?_
        refine X_getK hK fl_X5_61_2 hs_a1 ((xs_a hg23 (xne hs_a1 hs_fa (by decide))).trans ((xs_a hg22 (xne hs_a1 hs_fa (by decide))).trans ((xs_a hg21 (xne hs_a1 hs_fa (by decide))).trans ((xs_a hg10 (xne hs_a1 hs_fa (by decide))).trans ((xs_a hg5 (xne hs_a1 hs_fa (by decide))).trans edy))))) kd32_34.1 ?_
        refine X_bipush hK kd32_34.2.1 (by decide) ?_
        refine X_irem hK (by omega) (by omega) kd32_34.2.2.1 (fun z24 wz24 ez24 fz24 hz24 => ?_)
        have bz24 : 0 ≤ z24 ∧ z24 ≤ 6 := by omega
        refine X_iast hK hs_fa (by decide) (by decide) sl_12000 (by omega) (by omega) (by omega) (by omega) kd32_34.2.2.2.1 (fun g25 hg25 => ?_)
        refine X_aloadn hK (i := 0) 1 kd32_34.2.2.2.2.1 rfl rfl ?_
        refine X_getK hK fl_X5_31_6 hs_a0 ((xs_a hg25 (xne hs_a0 hs_fa (by decide))).trans ((xs_a hg23 (xne hs_a0 hs_fa (by decide))).trans ((xs_a hg22 (xne hs_a0 hs_fa (by decide))).trans ((xs_a hg21 (xne hs_a0 hs_fa (by decide))).trans ((xs_a hg10 (xne hs_a0 hs_fa (by decide))).trans ((xs_a hg5 (xne hs_a0 hs_fa (by decide))).trans efa)))))) kd32_34.2.2.2.2.2.1 ?_
        refine X_bipush hK kd32_34.2.2.2.2.2.2.1 (by decide) ?_
        refine X_aloadn hK (i := 1) 2 kd32_34.2.2.2.2.2.2.2.1 rfl rfl ?_
        refine X_getK hK fl_X5_61_2 hs_a1 ((xs_a hg25 (xne hs_a1 hs_fa (by decide))).trans ((xs_a hg23 (xne hs_a1 hs_fa (by decide))).trans ((xs_a hg22 (xne hs_a1 hs_fa (by decide))).trans ((xs_a hg21 (xne hs_a1 hs_fa (by decide))).trans ((xs_a hg10 (xne hs_a1 hs_fa (by decide))).trans ((xs_a hg5 (xne hs_a1 hs_fa (by decide))).trans edy)))))) kd32_34.2.2.2.2.2.2.2.2.1 ?_
        refine X_iast hK hs_fa (by decide) (by decide) sl_12000 (by omega) (by omega) (by omega) (by omega) kd32_34.2.2.2.2.2.2.2.2.2.1 (fun g26 hg26 => ?_)
        refine X_aloadn hK (i := 0) 1 kd32_34.2.2.2.2.2.2.2.2.2.2.1 rfl rfl ?_
        refine X_getK hK fl_X5_31_6 hs_a0 ((xs_a hg26 (xne hs_a0 hs_fa (by decide))).trans ((xs_a hg25 (xne hs_a0 hs_fa (by decide))).trans ((xs_a hg23 (xne hs_a0 hs_fa (by decide))).trans ((xs_a hg22 (xne hs_a0 hs_fa (by decide))).trans ((xs_a hg21 (xne hs_a0 hs_fa (by decide))).trans ((xs_a hg10 (xne hs_a0 hs_fa (by decide))).trans ((xs_a hg5 (xne hs_a0 hs_fa (by decide))).trans efa))))))) kd32_34.2.2.2.2.2.2.2.2.2.2.2 ?_
        refine X_bipush hK kd32_35.1 (by decide) ?_
        refine X_aloadn hK (i := 1) 2 kd32_35.2.1 rfl rfl ?_
        refine X_getK hK fl_X5_77_2 hs_a1 ((xs_a hg26 (xne hs_a1 hs_fa (by decide))).trans ((xs_a hg25 (xne hs_a1 hs_fa (by decide))).trans ((xs_a hg23 (xne hs_a1 hs_fa (by decide))).trans ((xs_a hg22 (xne hs_a1 hs_fa (by decide))).trans ((xs_a hg21 (xne hs_a1 hs_fa (by decide))).trans ((xs_a hg10 (xne hs_a1 hs_fa (by decide))).trans ((xs_a hg5 (xne hs_a1 hs_fa (by decide))).trans epp))))))) kd32_35.2.2.1 ?_
        refine X_iast hK hs_fa (by decide) (by decide) sl_12000 (by omega) (by omega) (by omega) (by omega) kd32_35.2.2.2.1 (fun g27 hg27 => ?_)
        refine X_aloadn hK (i := 0) 1 kd32_35.2.2.2.2.1 rfl rfl ?_
        refine X_getK hK fl_X5_31_6 hs_a0 ((xs_a hg27 (xne hs_a0 hs_fa (by decide))).trans ((xs_a hg26 (xne hs_a0 hs_fa (by decide))).trans ((xs_a hg25 (xne hs_a0 hs_fa (by decide))).trans ((xs_a hg23 (xne hs_a0 hs_fa (by decide))).trans ((xs_a hg22 (xne hs_a0 hs_fa (by decide))).trans ((xs_a hg21 (xne hs_a0 hs_fa (by decide))).trans ((xs_a hg10 (xne hs_a0 hs_fa (by decide))).trans ((xs_a hg5 (xne hs_a0 hs_fa (by decide))).trans efa)))))))) kd32_35.2.2.2.2.2.1 ?_
        refine X_bipush hK kd32_35.2.2.2.2.2.2.1 (by decide) ?_
        refine X_aloadn hK (i := 1) 2 kd32_35.2.2.2.2.2.2.2.1 rfl rfl ?_
        refine X_getK hK fl_X5_80_2 hs_a1 ((xs_a hg27 (xne hs_a1 hs_fa (by decide))).trans ((xs_a hg26 (xne hs_a1 hs_fa (by decide))).trans ((xs_a hg25 (xne hs_a1 hs_fa (by decide))).trans ((xs_a hg23 (xne hs_a1 hs_fa (by decide))).trans ((xs_a hg22 (xne hs_a1 hs_fa (by decide))).trans ((xs_a hg21 (xne hs_a1 hs_fa (by decide))).trans ((xs_a hg10 (xne hs_a1 hs_fa (by decide))).trans ((xs_a hg5 (xne hs_a1 hs_fa (by decide))).trans eco)))))))) kd32_35.2.2.2.2.2.2.2.2.1 ?_
        refine X_iast hK hs_fa (by decide) (by decide) sl_12000 (by omega) (by omega) (by omega) (by omega) kd32_35.2.2.2.2.2.2.2.2.2.1 (fun g28 hg28 => ?_)
        refine X_aloadn hK (i := 0) 1 kd32_35.2.2.2.2.2.2.2.2.2.2.1 rfl rfl ?_
        refine X_getK hK fl_X5_31_6 hs_a0 ((xs_a hg28 (xne hs_a0 hs_fa (by decide))).trans ((xs_a hg27 (xne hs_a0 hs_fa (by decide))).trans ((xs_a hg26 (xne hs_a0 hs_fa (by decide))).trans ((xs_a hg25 (xne hs_a0 hs_fa (by decide))).trans ((xs_a hg23 (xne hs_a0 hs_fa (by decide))).trans ((xs_a hg22 (xne hs_a0 hs_fa (by decide))).trans ((xs_a hg21 (xne hs_a0 hs_fa (by decide))).trans ((xs_a hg10 (xne hs_a0 hs_fa (by decide))).trans ((xs_a hg5 (xne hs_a0 hs_fa (by decide))).trans efa))))))))) kd32_35.2.2.2.2.2.2.2.2.2.2.2 ?_
        refine X_bipush hK kd32_36.1 (by decide) ?_
        refine X_aloadn hK (i := 1) 2 kd32_36.2.1 rfl rfl ?_
        refine X_getK hK fl_X5_83_2 hs_a1 ((xs_a hg28 (xne hs_a1 hs_fa (by decide))).trans ((xs_a hg27 (xne hs_a1 hs_fa (by decide))).trans ((xs_a hg26 (xne hs_a1 hs_fa (by decide))).trans ((xs_a hg25 (xne hs_a1 hs_fa (by decide))).trans ((xs_a hg23 (xne hs_a1 hs_fa (by decide))).trans ((xs_a hg22 (xne hs_a1 hs_fa (by decide))).trans ((xs_a hg21 (xne hs_a1 hs_fa (by decide))).trans ((xs_a hg10 (xne hs_a1 hs_fa (by decide))).trans ((xs_a hg5 (xne hs_a1 hs_fa (by decide))).trans ecp))))))))) kd32_36.2.2.1 ?_
        refine X_iast hK hs_fa (by decide) (by decide) sl_12000 (by omega) (by omega) (by omega) (by omega) kd32_36.2.2.2.1 (fun g29 hg29 => ?_)
        refine X_aloadn hK (i := 0) 1 kd32_36.2.2.2.2.1 rfl rfl ?_
        refine X_getK hK fl_X5_31_6 hs_a0 ((xs_a hg29 (xne hs_a0 hs_fa (by decide))).trans ((xs_a hg28 (xne hs_a0 hs_fa (by decide))).trans ((xs_a hg27 (xne hs_a0 hs_fa (by decide))).trans ((xs_a hg26 (xne hs_a0 hs_fa (by decide))).trans ((xs_a hg25 (xne hs_a0 hs_fa (by decide))).trans ((xs_a hg23 (xne hs_a0 hs_fa (by decide))).trans ((xs_a hg22 (xne hs_a0 hs_fa (by decide))).trans ((xs_a hg21 (xne hs_a0 hs_fa (by decide))).trans ((xs_a hg10 (xne hs_a0 hs_fa (by decide))).trans ((xs_a hg5 (xne hs_a0 hs_fa (by decide))).trans efa)))))))))) kd32_36.2.2.2.2.2.1 ?_
        refine X_bipush hK kd32_36.2.2.2.2.2.2.1 (by decide) ?_
        refine X_aloadn hK (i := 0) 1 kd32_36.2.2.2.2.2.2.2.1 rfl rfl ?_
        refine X_getK hK fl_X5_12_6 hs_a0 ((xs_a hg29 (xne hs_a0 hs_fa (by decide))).trans ((xs_a hg28 (xne hs_a0 hs_fa (by decide))).trans ((xs_a hg27 (xne hs_a0 hs_fa (by decide))).trans ((xs_a hg26 (xne hs_a0 hs_fa (by decide))).trans ((xs_a hg25 (xne hs_a0 hs_fa (by decide))).trans ((xs_a hg23 (xne hs_a0 hs_fa (by decide))).trans ((xs_a hg22 (xne hs_a0 hs_fa (by decide))).trans ((xs_a hg21 (xne hs_a0 hs_fa (by decide))).trans ((xs_a hg10 (xne hs_a0 hs_fa (by decide))).trans ((xs_a hg5 (xne hs_a0 hs_fa (by decide))).trans ect)))))))))) kd32_36.2.2.2.2.2.2.2.2.1 ?_
        refine X_getK hK fl_X5_86_4 hs_ct ((xs_a hg29 (xne hs_ct hs_fa (by decide))).trans ((xs_a hg28 (xne hs_ct hs_fa (by decide))).trans ((xs_a hg27 (xne hs_ct hs_fa (by decide))).trans ((xs_a hg26 (xne hs_ct hs_fa (by decide))).trans ((xs_a hg25 (xne hs_ct hs_fa (by decide))).trans ((xs_a hg23 (xne hs_ct hs_fa (by decide))).trans ((xs_a hg22 (xne hs_ct hs_fa (by decide))).trans ((xs_a hg21 (xne hs_ct hs_fa (by decide))).trans ((xs_a hg10 (xne hs_ct hs_fa (by decide))).trans ((xs_a hg5 (xne hs_ct hs_fa (by decide))).trans esk)))))))))) kd32_36.2.2.2.2.2.2.2.2.2.1 ?_
        refine X_aloadn hK (i := 1) 2 kd32_36.2.2.2.2.2.2.2.2.2.2.1 rfl rfl ?_
        refine X_getK hK fl_X5_61_2 hs_a1 ((xs_a hg29 (xne hs_a1 hs_fa (by decide))).trans ((xs_a hg28 (xne hs_a1 hs_fa (by decide))).trans ((xs_a hg27 (xne hs_a1 hs_fa (by decide))).trans ((xs_a hg26 (xne hs_a1 hs_fa (by decide))).trans ((xs_a hg25 (xne hs_a1 hs_fa (by decide))).trans ((xs_a hg23 (xne hs_a1 hs_fa (by decide))).trans ((xs_a hg22 (xne hs_a1 hs_fa (by decide))).trans ((xs_a hg21 (xne hs_a1 hs_fa (by decide))).trans ((xs_a hg10 (xne hs_a1 hs_fa (by decide))).trans ((xs_a hg5 (xne hs_a1 hs_fa (by decide))).trans edy)))))))))) kd32_36.2.2.2.2.2.2.2.2.2.2.2 ?_
        refine X_iald hK hs_sk (by decide) sl_10700 (by omega) (by omega) kd32_37.1 (fun z30 ez30 lz30 uz30 => ?_)
        have hw31 : xv g sk dy = z30 := (by rw [← (Eq.trans (Eq.trans (Eq.trans (Eq.trans (Eq.trans (Eq.trans (Eq.trans (Eq.trans (Eq.trans (xv_a hg29 (xne hs_sk hs_fa (by decide))) (xv_a hg28 (xne hs_sk hs_fa (by decide)))) (xv_a hg27 (xne hs_sk hs_fa (by decide)))) (xv_a hg26 (xne hs_sk hs_fa (by decide)))) (xv_a hg25 (xne hs_sk hs_fa (by decide)))) (xv_a hg23 (xne hs_sk hs_fa (by decide)))) (xv_a hg22 (xne hs_sk hs_fa (by decide)))) (xv_a hg21 (xne hs_sk hs_fa (by decide)))) (xv_a hg10 (xne hs_sk hs_fa (by decide)))) (xv_a hg5 (xne hs_sk hs_fa (by decide))))]; exact (xv_e (j := dy) ez30 (by omega)))
        refine X_iast hK hs_fa (by decide) (by decide) sl_12000 (by omega) (by omega) (by omega) (by omega) kd32_37.2.1 (fun g32 hg32 => ?_)
        refine X_aloadn hK (i := 0) 1 kd32_37.2.2.1 rfl rfl ?_
        refine X_getK hK fl_X5_31_6 hs_a0 ((xs_a hg32 (xne hs_a0 hs_fa (by decide))).trans ((xs_a hg29 (xne hs_a0 hs_fa (by decide))).trans ((xs_a hg28 (xne hs_a0 hs_fa (by decide))).trans ((xs_a hg27 (xne hs_a0 hs_fa (by decide))).trans ((xs_a hg26 (xne hs_a0 hs_fa (by decide))).trans ((xs_a hg25 (xne hs_a0 hs_fa (by decide))).trans ((xs_a hg23 (xne hs_a0 hs_fa (by decide))).trans ((xs_a hg22 (xne hs_a0 hs_fa (by decide))).trans ((xs_a hg21 (xne hs_a0 hs_fa (by decide))).trans ((xs_a hg10 (xne hs_a0 hs_fa (by decide))).trans ((xs_a hg5 (xne hs_a0 hs_fa (by decide))).trans efa))))))))))) kd32_37.2.2.2.1 ?_
        refine X_bipush hK kd32_37.2.2.2.2.1 (by decide) ?_
        refine X_aloadn hK (i := 2) 0 kd32_37.2.2.2.2.2.1 rfl rfl ?_
        refine X_getK hK fl_X5_89_1 hs_yb ((xs_a hg32 (xne hs_yb hs_fa (by decide))).trans ((xs_a hg29 (xne hs_yb hs_fa (by decide))).trans ((xs_a hg28 (xne hs_yb hs_fa (by decide))).trans ((xs_a hg27 (xne hs_yb hs_fa (by decide))).trans ((xs_a hg26 (xne hs_yb hs_fa (by decide))).trans ((xs_a hg25 (xne hs_yb hs_fa (by decide))).trans ((xs_a hg23 (xne hs_yb hs_fa (by decide))).trans ((xs_a hg22 (xne hs_yb hs_fa (by decide))).trans ((xs_a hg21 (xne hs_yb hs_fa (by decide))).trans ((xs_a hg10 (xne hs_yb hs_fa (by decide))).trans ((xs_a hg5 (xne hs_yb hs_fa (by decide))).trans efi))))))))))) kd32_37.2.2.2.2.2.2.1 ?_
        refine X_iast hK hs_fa (by decide) (by decide) sl_12000 (by omega) (by omega) (by omega) (by omega) kd32_37.2.2.2.2.2.2.2.1 (fun g33 hg33 => ?_)
        exact hret _ _ _ _ _ _ kd32_37.2.2.2.2.2.2.2.2.1 ⟨rfl, rfl, (xFa.mk (by rw [(show xv g33 fa 0 = z2 from by rw [(xv_k (i := 0) hg33 (by omega) (by omega) (by omega)), (xv_k (i := 0) hg32 (by omega) (by omega) (by omega)), (xv_k (i := 0) hg29 (by omega) (by omega) (by omega)), (xv_k (i := 0) hg28 (by omega) (by omega) (by omega)), (xv_k (i := 0) hg27 (by omega) (by omega) (by omega)), (xv_k (i := 0) hg26 (by omega) (by omega) (by omega)), (xv_k (i := 0) hg25 (by omega) (by omega) (by omega)), (xv_k (i := 0) hg23 (by omega) (by omega) (by omega)), (xv_k (i := 0) hg22 (by omega) (by omega) (by omega)), (xv_k (i := 0) hg21 (by omega) (by omega) (by omega)), (xv_k (i := 0) hg10 (by omega) (by omega) (by omega)), xv_s hg5 (by omega)])]; exact m4) (by rw [(show xv g33 fa 1 = z7 from by rw [(xv_k (i := 1) hg33 (by omega) (by omega) (by omega)), (xv_k (i := 1) hg32 (by omega) (by omega) (by omega)), (xv_k (i := 1) hg29 (by omega) (by omega) (by omega)), (xv_k (i := 1) hg28 (by omega) (by omega) (by omega)), (xv_k (i := 1) hg27 (by omega) (by omega) (by omega)), (xv_k (i := 1) hg26 (by omega) (by omega) (by omega)), (xv_k (i := 1) hg25 (by omega) (by omega) (by omega)), (xv_k (i := 1) hg23 (by omega) (by omega) (by omega)), (xv_k (i := 1) hg22 (by omega) (by omega) (by omega)), (xv_k (i := 1) hg21 (by omega) (by omega) (by omega)), xv_s hg10 (by omega)])]; exact m9) (by rw [(show xv g33 fa 2 = z18 from by rw [(xv_k (i := 2) hg33 (by omega) (by omega) (by omega)), (xv_k (i := 2) hg32 (by omega) (by omega) (by omega)), (xv_k (i := 2) hg29 (by omega) (by omega) (by omega)), (xv_k (i := 2) hg28 (by omega) (by omega) (by omega)), (xv_k (i := 2) hg27 (by omega) (by omega) (by omega)), (xv_k (i := 2) hg26 (by omega) (by omega) (by omega)), (xv_k (i := 2) hg25 (by omega) (by omega) (by omega)), (xv_k (i := 2) hg23 (by omega) (by omega) (by omega)), (xv_k (i := 2) hg22 (by omega) (by omega) (by omega)), xv_s hg21 (by omega)])]; exact m20) (by rw [(show xv g33 fa 3 = ag from by rw [(xv_k (i := 3) hg33 (by omega) (by omega) (by omega)), (xv_k (i := 3) hg32 (by omega) (by omega) (by omega)), (xv_k (i := 3) hg29 (by omega) (by omega) (by omega)), (xv_k (i := 3) hg28 (by omega) (by omega) (by omega)), (xv_k (i := 3) hg27 (by omega) (by omega) (by omega)), (xv_k (i := 3) hg26 (by omega) (by omega) (by omega)), (xv_k (i := 3) hg25 (by omega) (by omega) (by omega)), (xv_k (i := 3) hg23 (by omega) (by omega) (by omega)), xv_s hg22 (by omega)])]; rfl) (by rw [(show xv g33 fa 4 = ho from by rw [(xv_k (i := 4) hg33 (by omega) (by omega) (by omega)), (xv_k (i := 4) hg32 (by omega) (by omega) (by omega)), (xv_k (i := 4) hg29 (by omega) (by omega) (by omega)), (xv_k (i := 4) hg28 (by omega) (by omega) (by omega)), (xv_k (i := 4) hg27 (by omega) (by omega) (by omega)), (xv_k (i := 4) hg26 (by omega) (by omega) (by omega)), (xv_k (i := 4) hg25 (by omega) (by omega) (by omega)), xv_s hg23 (by omega)])]; rfl) (by rw [(show xv g33 fa 5 = z24 from by rw [(xv_k (i := 5) hg33 (by omega) (by omega) (by omega)), (xv_k (i := 5) hg32 (by omega) (by omega) (by omega)), (xv_k (i := 5) hg29 (by omega) (by omega) (by omega)), (xv_k (i := 5) hg28 (by omega) (by omega) (by omega)), (xv_k (i := 5) hg27 (by omega) (by omega) (by omega)), (xv_k (i := 5) hg26 (by omega) (by omega) (by omega)), xv_s hg25 (by omega)])]; show _ = dy % 7; omega) (by rw [(show xv g33 fa 6 = dy from by rw [(xv_k (i := 6) hg33 (by omega) (by omega) (by omega)), (xv_k (i := 6) hg32 (by omega) (by omega) (by omega)), (xv_k (i := 6) hg29 (by omega) (by omega) (by omega)), (xv_k (i := 6) hg28 (by omega) (by omega) (by omega)), (xv_k (i := 6) hg27 (by omega) (by omega) (by omega)), xv_s hg26 (by omega)])]; rfl) (by rw [(show xv g33 fa 7 = pp from by rw [(xv_k (i := 7) hg33 (by omega) (by omega) (by omega)), (xv_k (i := 7) hg32 (by omega) (by omega) (by omega)), (xv_k (i := 7) hg29 (by omega) (by omega) (by omega)), (xv_k (i := 7) hg28 (by omega) (by omega) (by omega)), xv_s hg27 (by omega)])]; rfl) (by rw [(show xv g33 fa 8 = co from by rw [(xv_k (i := 8) hg33 (by omega) (by omega) (by omega)), (xv_k (i := 8) hg32 (by omega) (by omega) (by omega)), (xv_k (i := 8) hg29 (by omega) (by omega) (by omega)), xv_s hg28 (by omega)])]; rfl) (by rw [(show xv g33 fa 9 = cp from by rw [(xv_k (i := 9) hg33 (by omega) (by omega) (by omega)), (xv_k (i := 9) hg32 (by omega) (by omega) (by omega)), xv_s hg29 (by omega)])]; rfl) (by rw [(show xv g33 fa 10 = z30 from by rw [(xv_k (i := 10) hg33 (by omega) (by omega) (by omega)), xv_s hg32 (by omega)])]; exact hw31.symm) (by rw [(show xv g33 fa 11 = fi from by rw [xv_s hg33 (by omega)])]; rfl))⟩ (Nat.le_refl _) (Nat.le_refl _)
      refine X_if_eq hK 62 (by omega) kd32_32.2.2.2.1 (by decide) (fun c17 => ?_) (fun c17 => ?_)
      · refine X_iconst hK kd32_32.2.2.2.2.2.2.1 ?_
        exact J19 0 (by omega) (by omega) (by rw [if_neg (fun q9 => by have h8 := ho16.mpr q9; omega)])
      · refine X_iconst hK kd32_32.2.2.2.2.1 ?_
        refine X_goto hK 63 kd32_32.2.2.2.2.2.1 (by decide) ?_
        exact J19 1 (by omega) (by omega) (by rw [if_pos (ho16.mp (by omega))])
    refine X_icmp_gt hK 43 (by omega) (by omega) kd32_31.2.2.2.2.1 (by decide) (fun c6 => ?_) (fun c6 => ?_)
    · refine X_iconst hK kd32_31.2.2.2.2.2.2.2.1 ?_
      exact J8 0 (by omega) (by omega) (by rw [if_neg (by omega)])
    · refine X_iconst hK kd32_31.2.2.2.2.2.1 ?_
      refine X_goto hK 44 kd32_31.2.2.2.2.2.2.1 (by decide) ?_
      exact J8 1 (by omega) (by omega) (by rw [if_pos (by omega)])
  refine X_if_eq hK 21 (by omega) kd32_30.2.2.2.2.1 (by decide) (fun c1 => ?_) (fun c1 => ?_)
  · refine X_iconst hK kd32_30.2.2.2.2.2.2.2.1 ?_
    exact J3 0 (by omega) (by omega) (by omega)
  · refine X_iconst hK kd32_30.2.2.2.2.2.1 ?_
    refine X_goto hK 22 kd32_30.2.2.2.2.2.2.1 (by decide) ?_
    exact J3 1 (by omega) (by omega) (by omega)

set_option maxHeartbeats 4000000 in
set_option maxRecDepth 100000 in
theorem m_ask (l : Launch) (D : va_G) (kA : Nat → ClassId) (b0 : Nat) (t0 : Nat → Nat) (S : xT) (g : xG) (a0 : Nat) (x1 : Int) (x2 : Int) (x3 : Int) (x4 : Int) (x5 : Int) (x6 : Int) (wc : Nat) (wsc : Nat) (wbd : Nat) (wow : Nat) (wag : Nat) (wfi : Nat) (sm : Int) (ms : Nat) (hs_a0 : S a0 = some (13, 0)) (hx1 : 0 ≤ x1 ∧ x1 ≤ 39) (hx2 : 0 ≤ x2 ∧ x2 ≤ 3) (hx3 : 0 ≤ x3 ∧ x3 ≤ 9) (hx4 : (-2147483648) ≤ x4 ∧ x4 ≤ 2147483647) (hx5 : (-2147483648) ≤ x5 ∧ x5 ≤ 2147483647) (hx6 : 0 ≤ x6 ∧ x6 ≤ 399) (ewc : g a0 45 = .ref wc) (hs_wc : S wc = some (16300, 12)) (ewsc : g a0 8 = .ref wsc) (hs_wsc : S wsc = some (19301, 40)) (ewbd : g a0 5 = .ref wbd) (hs_wbd : S wbd = some (14300, 40)) (ewow : g a0 9 = .ref wow) (hs_wow : S wow = some (14600, 10)) (ewag : g a0 4 = .ref wag) (hs_wag : S wag = some (14200, 40)) (ewfi : g a0 6 = .ref wfi) (hs_wfi : S wfi = some (14400, 40)) (hsm : 0 ≤ sm ∧ sm ≤ 400) (esm : g a0 17 = .int (iI sm)) (ems : g a0 10 = .ref ms) (hs_ms : S ms = some (14700, 400)) : xMt l yX12_ask cX12_ask 7 none 1 0 0 21 D kA b0 t0 [(16300, 0)] [.ref a0, .int (iI x1), .int (iI x2), .int (iI x3), .int (iI x4), .int (iI x5), .int (iI x6)] S g (fun (r : Option Value) (S1 : xT) (g1 : xG) => S = S1 ∧ r = none ∧ (xFa (xv g1 wc) (xfct (xv g wsc x1) (xv g wag x1) (xv g wfi x1) (xv g wbd x1) (if xv g wow x3 = x1 then 1 else 0) x5 x6 x2 x3 x4 (if sm = 0 then 0 else if x6 < sm then xv g ms x6 else 3)))) := by
  refine xEnterV (by decide) (by simp [lg_sl, Value.category]) [(0, .ref a0), (1, .int (iI x1)), (2, .int (iI x2)), (3, .int (iI x3)), (4, .int (iI x4)), (5, .int (iI x5)), (6, .int (iI x6))] rfl ?_
  intro K E hK hret _ _ _
  refine X_aloadn hK (i := 0) 0 kd28_0.1 rfl rfl ?_
  refine X_getK hK fl_X12_80_13 hs_a0 ewc kd28_0.2.1 ?_
  refine X_iconst hK kd28_0.2.2.1 ?_
  refine X_aloadn hK (i := 0) 0 kd28_0.2.2.2.1 rfl rfl ?_
  refine X_getK hK fl_X12_25_13 hs_a0 ewsc kd28_0.2.2.2.2.1 ?_
  refine X_iloadn hK (i := 1) 1 kd28_0.2.2.2.2.2.1 rfl rfl ?_
  refine X_zald hK hs_wsc (by decide) sl_19301 (by omega) (by omega) kd28_0.2.2.2.2.2.2.1 (fun z1 ez1 lz1 uz1 => ?_)
  have hw2 : xv g wsc x1 = z1 := (xv_e (j := x1) ez1 (by omega))
  have J5 : ∀ (z4 : Int) (lz4 : 0 ≤ z4) (uz4 : z4 ≤ 1) (m6 : z4 = xv g wsc x1), X K E 19 [(0, .ref a0), (1, .int (iI x1)), (2, .int (iI x2)), (3, .int (iI x3)), (4, .int (iI x4)), (5, .int (iI x5)), (6, .int (iI x6))] [.int (iI z4), .int (iI 0), .ref wc] S g 0 0 := by
    intro z4 lz4 uz4 m6
    refine X_iast hK hs_wc (by decide) (by decide) sl_16300 (by omega) (by omega) (by omega) (by omega) kd28_0.2.2.2.2.2.2.2.2.2.2.2 (fun g7 hg7 => ?_)
    refine X_aloadn hK (i := 0) 0 kd28_1.1 rfl rfl ?_
    refine X_getK hK fl_X12_80_13 hs_a0 ((xs_a hg7 (xne hs_a0 hs_wc (by decide))).trans ewc) kd28_1.2.1 ?_
    refine X_iconst hK kd28_1.2.2.1 ?_
    refine X_iload hK (i := 6) 6 kd28_1.2.2.2.1 rfl ?_
    refine X_aloadn hK (i := 0) 0 kd28_1.2.2.2.2.1 rfl rfl ?_
    refine X_getK hK fl_X12_16_13 hs_a0 ((xs_a hg7 (xne hs_a0 hs_wc (by decide))).trans ewbd) kd28_1.2.2.2.2.2.1 ?_
    refine X_iloadn hK (i := 1) 1 kd28_1.2.2.2.2.2.2.1 rfl rfl ?_
    refine X_iald hK hs_wbd (by decide) sl_14300 (by omega) (by omega) kd28_1.2.2.2.2.2.2.2.1 (fun z8 ez8 lz8 uz8 => ?_)
    have hw9 : xv g wbd x1 = z8 := (by rw [← (xv_a hg7 (xne hs_wbd hs_wc (by decide)))]; exact (xv_e (j := x1) ez8 (by omega)))
    have J12 : ∀ (z11 : Int) (lz11 : 0 ≤ z11) (uz11 : z11 ≤ 1) (m13 : z11 = if x6 ≤ xv g wbd x1 then 1 else 0), X K E 41 [(0, .ref a0), (1, .int (iI x1)), (2, .int (iI x2)), (3, .int (iI x3)), (4, .int (iI x4)), (5, .int (iI x5)), (6, .int (iI x6))] [.int (iI z11), .int (iI 1), .ref wc] S g7 0 0 := by
      intro z11 lz11 uz11 m13
      refine X_iast hK hs_wc (by decide) (by decide) sl_16300 (by omega) (by omega) (by omega) (by omega) kd28_2.1 (fun g14 hg14 => ?_)
      refine X_aloadn hK (i := 0) 0 kd28_2.2.1 rfl rfl ?_
      refine X_getK hK fl_X12_80_13 hs_a0 ((xs_a hg14 (xne hs_a0 hs_wc (by decide))).trans ((xs_a hg7 (xne hs_a0 hs_wc (by decide))).trans ewc)) kd28_2.2.2.1 ?_
      refine X_iconst hK kd28_2.2.2.2.1 ?_
      refine X_aloadn hK (i := 0) 0 kd28_2.2.2.2.2.1 rfl rfl ?_
      refine X_getK hK fl_X12_29_13 hs_a0 ((xs_a hg14 (xne hs_a0 hs_wc (by decide))).trans ((xs_a hg7 (xne hs_a0 hs_wc (by decide))).trans ewow)) kd28_2.2.2.2.2.2.1 ?_
      refine X_iloadn hK (i := 3) 3 kd28_2.2.2.2.2.2.2.1 rfl rfl ?_
      refine X_iald hK hs_wow (by decide) sl_14600 (by omega) (by omega) kd28_2.2.2.2.2.2.2.2.1 (fun z15 ez15 lz15 uz15 => ?_)
      have hw16 : xv g wow x3 = z15 := (by rw [← (Eq.trans (xv_a hg14 (xne hs_wow hs_wc (by decide))) (xv_a hg7 (xne hs_wow hs_wc (by decide))))]; exact (xv_e (j := x3) ez15 (by omega)))
      refine X_iloadn hK (i := 1) 1 kd28_2.2.2.2.2.2.2.2.2.1 rfl rfl ?_
      have J19 : ∀ (z18 : Int) (lz18 : 0 ≤ z18) (uz18 : z18 ≤ 1) (m20 : z18 = if xv g wow x3 = x1 then 1 else 0), X K E 62 [(0, .ref a0), (1, .int (iI x1)), (2, .int (iI x2)), (3, .int (iI x3)), (4, .int (iI x4)), (5, .int (iI x5)), (6, .int (iI x6))] [.int (iI z18), .int (iI 2), .ref wc] S g14 0 0 := by
        intro z18 lz18 uz18 m20
        refine X_iast hK hs_wc (by decide) (by decide) sl_16300 (by omega) (by omega) (by omega) (by omega) kd28_3.2.1 (fun g21 hg21 => ?_)
        refine X_aloadn hK (i := 0) 0 kd28_3.2.2.1 rfl rfl ?_
        refine X_getK hK fl_X12_80_13 hs_a0 ((xs_a hg21 (xne hs_a0 hs_wc (by decide))).trans ((xs_a hg14 (xne hs_a0 hs_wc (by decide))).trans ((xs_a hg7 (xne hs_a0 hs_wc (by decide))).trans ewc))) kd28_3.2.2.2.1 ?_
        refine X_iconst hK kd28_3.2.2.2.2.1 ?_
        refine X_aloadn hK (i := 0) 0 kd28_3.2.2.2.2.2.1 rfl rfl ?_
        refine X_getK hK fl_X12_13_13 hs_a0 ((xs_a hg21 (xne hs_a0 hs_wc (by decide))).trans ((xs_a hg14 (xne hs_a0 hs_wc (by decide))).trans ((xs_a hg7 (xne hs_a0 hs_wc (by decide))).trans ewag))) kd28_3.2.2.2.2.2.2.1 ?_
        refine X_iloadn hK (i := 1) 1 kd28_3.2.2.2.2.2.2.2.1 rfl rfl ?_
        refine X_iald hK hs_wag (by decide) sl_14200 (by omega) (by omega) kd28_3.2.2.2.2.2.2.2.2.1 (fun z22 ez22 lz22 uz22 => ?_)
        have hw23 : xv g wag x1 = z22 := (by rw [← (Eq.trans (Eq.trans (xv_a hg21 (xne hs_wag hs_wc (by decide))) (xv_a hg14 (xne hs_wag hs_wc (by decide)))) (xv_a hg7 (xne hs_wag hs_wc (by decide))))]; exact (xv_e (j := x1) ez22 (by omega)))
        refine X_iast hK hs_wc (by decide) (by decide) sl_16300 (by omega) (by omega) (by omega) (by omega) kd28_3.2.2.2.2.2.2.2.2.2.1 (fun g24 hg24 => ?_)
        refine X_aloadn hK (i := 0) 0 kd28_3.2.2.2.2.2.2.2.2.2.2.1 rfl rfl ?_
        refine X_getK hK fl_X12_80_13 hs_a0 ((xs_a hg24 (xne hs_a0 hs_wc (by decide))).trans ((xs_a hg21 (xne hs_a0 hs_wc (by decide))).trans ((xs_a hg14 (xne hs_a0 hs_wc (by decide))).trans ((xs_a hg7 (xne hs_a0 hs_wc (by decide))).trans ewc)))) kd28_3.2.2.2.2.2.2.2.2.2.2.2 ?_
        refine X_iconst hK kd28_4.1 ?_
        refine X_iload hK (i := 5) 5 kd28_4.2.1 rfl ?_
        refine X_iast hK hs_wc (by decide) (by decide) sl_16300 (by omega) (by omega) (by omega) (by omega) kd28_4.2.2.1 (fun g25 hg25 => ?_)
        refine X_aloadn hK (i := 0) 0 kd28_4.2.2.2.1 rfl rfl ?_
        refine X_getK hK fl_X12_80_13 hs_a0 ((xs_a hg25 (xne hs_a0 hs_wc (by decide))).trans ((xs_a hg24 (xne hs_a0 hs_wc (by decide))).trans ((xs_a hg21 (xne hs_a0 hs_wc (by decide))).trans ((xs_a hg14 (xne hs_a0 hs_wc (by decide))).trans ((xs_a hg7 (xne hs_a0 hs_wc (by decide))).trans ewc))))) kd28_4.2.2.2.2.1 ?_
        refine X_iconst hK kd28_4.2.2.2.2.2.1 ?_
        refine X_iload hK (i := 6) 6 kd28_4.2.2.2.2.2.2.1 rfl ?_
        refine X_bipush hK kd28_4.2.2.2.2.2.2.2.1 (by decide) ?_
        refine X_irem hK (by omega) (by omega) kd28_4.2.2.2.2.2.2.2.2.1 (fun z26 wz26 ez26 fz26 hz26 => ?_)
        have bz26 : 0 ≤ z26 ∧ z26 ≤ 6 := by omega
        refine X_iast hK hs_wc (by decide) (by decide) sl_16300 (by omega) (by omega) (by omega) (by omega) kd28_4.2.2.2.2.2.2.2.2.2.1 (fun g27 hg27 => ?_)
        refine X_aloadn hK (i := 0) 0 kd28_4.2.2.2.2.2.2.2.2.2.2.1 rfl rfl ?_
        refine X_getK hK fl_X12_80_13 hs_a0 ((xs_a hg27 (xne hs_a0 hs_wc (by decide))).trans ((xs_a hg25 (xne hs_a0 hs_wc (by decide))).trans ((xs_a hg24 (xne hs_a0 hs_wc (by decide))).trans ((xs_a hg21 (xne hs_a0 hs_wc (by decide))).trans ((xs_a hg14 (xne hs_a0 hs_wc (by decide))).trans ((xs_a hg7 (xne hs_a0 hs_wc (by decide))).trans ewc)))))) kd28_4.2.2.2.2.2.2.2.2.2.2.2 ?_
        refine X_bipush hK kd28_5.1 (by decide) ?_
        refine X_iload hK (i := 6) 6 kd28_5.2.1 rfl ?_
        refine X_iast hK hs_wc (by decide) (by decide) sl_16300 (by omega) (by omega) (by omega) (by omega) kd28_5.2.2.1 (fun g28 hg28 => ?_)
        refine X_aloadn hK (i := 0) 0 kd28_5.2.2.2.1 rfl rfl ?_
        refine X_getK hK fl_X12_80_13 hs_a0 ((xs_a hg28 (xne hs_a0 hs_wc (by decide))).trans ((xs_a hg27 (xne hs_a0 hs_wc (by decide))).trans ((xs_a hg25 (xne hs_a0 hs_wc (by decide))).trans ((xs_a hg24 (xne hs_a0 hs_wc (by decide))).trans ((xs_a hg21 (xne hs_a0 hs_wc (by decide))).trans ((xs_a hg14 (xne hs_a0 hs_wc (by decide))).trans ((xs_a hg7 (xne hs_a0 hs_wc (by decide))).trans ewc))))))) kd28_5.2.2.2.2.1 ?_
        refine X_bipush hK kd28_5.2.2.2.2.2.1 (by decide) ?_
        refine X_iloadn hK (i := 2) 2 kd28_5.2.2.2.2.2.2.1 rfl rfl ?_
        refine X_iast hK hs_wc (by decide) (by decide) sl_16300 (by omega) (by omega) (by omega) (by omega) kd28_5.2.2.2.2.2.2.2.1 (fun g29 hg29 => ?_)
        refine X_aloadn hK (i := 0) 0 kd28_5.2.2.2.2.2.2.2.2.1 rfl rfl ?_
        refine X_getK hK fl_X12_80_13 hs_a0 ((xs_a hg29 (xne hs_a0 hs_wc (by decide))).trans ((xs_a hg28 (xne hs_a0 hs_wc (by decide))).trans ((xs_a hg27 (xne hs_a0 hs_wc (by decide))).trans ((xs_a hg25 (xne hs_a0 hs_wc (by decide))).trans ((xs_a hg24 (xne hs_a0 hs_wc (by decide))).trans ((xs_a hg21 (xne hs_a0 hs_wc (by decide))).trans ((xs_a hg14 (xne hs_a0 hs_wc (by decide))).trans ((xs_a hg7 (xne hs_a0 hs_wc (by decide))).trans ewc)))))))) kd28_5.2.2.2.2.2.2.2.2.2.1 ?_
        refine X_bipush hK kd28_5.2.2.2.2.2.2.2.2.2.2.1 (by decide) ?_
        refine X_iloadn hK (i := 3) 3 kd28_5.2.2.2.2.2.2.2.2.2.2.2 rfl rfl ?_
        refine X_iast hK hs_wc (by decide) (by decide) sl_16300 (by omega) (by omega) (by omega) (by omega) kd28_6.1 (fun g30 hg30 => ?_)
        refine X_aloadn hK (i := 0) 0 kd28_6.2.1 rfl rfl ?_
        refine X_getK hK fl_X12_80_13 hs_a0 ((xs_a hg30 (xne hs_a0 hs_wc (by decide))).trans ((xs_a hg29 (xne hs_a0 hs_wc (by decide))).trans ((xs_a hg28 (xne hs_a0 hs_wc (by decide))).trans ((xs_a hg27 (xne hs_a0 hs_wc (by decide))).trans ((xs_a hg25 (xne hs_a0 hs_wc (by decide))).trans ((xs_a hg24 (xne hs_a0 hs_wc (by decide))).trans ((xs_a hg21 (xne hs_a0 hs_wc (by decide))).trans ((xs_a hg14 (xne hs_a0 hs_wc (by decide))).trans ((xs_a hg7 (xne hs_a0 hs_wc (by decide))).trans ewc))))))))) kd28_6.2.2.1 ?_
        refine X_bipush hK kd28_6.2.2.2.1 (by decide) ?_
        refine X_iload hK (i := 4) 4 kd28_6.2.2.2.2.1 rfl ?_
        refine X_iast hK hs_wc (by decide) (by decide) sl_16300 (by omega) (by omega) (by omega) (by omega) kd28_6.2.2.2.2.2.1 (fun g31 hg31 => ?_)
        refine X_aloadn hK (i := 0) 0 kd28_6.2.2.2.2.2.2.1 rfl rfl ?_
        refine X_getK hK fl_X12_80_13 hs_a0 ((xs_a hg31 (xne hs_a0 hs_wc (by decide))).trans ((xs_a hg30 (xne hs_a0 hs_wc (by decide))).trans ((xs_a hg29 (xne hs_a0 hs_wc (by decide))).trans ((xs_a hg28 (xne hs_a0 hs_wc (by decide))).trans ((xs_a hg27 (xne hs_a0 hs_wc (by decide))).trans ((xs_a hg25 (xne hs_a0 hs_wc (by decide))).trans ((xs_a hg24 (xne hs_a0 hs_wc (by decide))).trans ((xs_a hg21 (xne hs_a0 hs_wc (by decide))).trans ((xs_a hg14 (xne hs_a0 hs_wc (by decide))).trans ((xs_a hg7 (xne hs_a0 hs_wc (by decide))).trans ewc)))))))))) kd28_6.2.2.2.2.2.2.2.1 ?_
        refine X_bipush hK kd28_6.2.2.2.2.2.2.2.2.1 (by decide) ?_
        refine X_aloadn hK (i := 0) 0 kd28_6.2.2.2.2.2.2.2.2.2.1 rfl rfl ?_
        refine X_iload hK (i := 6) 6 kd28_6.2.2.2.2.2.2.2.2.2.2.1 rfl ?_
        refine X_callV hK [.int (iI x6)] [.int (iI 10), .ref wc] lk_X12_232 (c_X12_skyOf _ _ _ _ _ S g31 a0 x6 sm ms hs_a0 (by omega) (by omega) ((xs_a hg31 (xne hs_a0 hs_wc (by decide))).trans ((xs_a hg30 (xne hs_a0 hs_wc (by decide))).trans ((xs_a hg29 (xne hs_a0 hs_wc (by decide))).trans ((xs_a hg28 (xne hs_a0 hs_wc (by decide))).trans ((xs_a hg27 (xne hs_a0 hs_wc (by decide))).trans ((xs_a hg25 (xne hs_a0 hs_wc (by decide))).trans ((xs_a hg24 (xne hs_a0 hs_wc (by decide))).trans ((xs_a hg21 (xne hs_a0 hs_wc (by decide))).trans ((xs_a hg14 (xne hs_a0 hs_wc (by decide))).trans ((xs_a hg7 (xne hs_a0 hs_wc (by decide))).trans esm)))))))))) ((xs_a hg31 (xne hs_a0 hs_wc (by decide))).trans ((xs_a hg30 (xne hs_a0 hs_wc (by decide))).trans ((xs_a hg29 (xne hs_a0 hs_wc (by decide))).trans ((xs_a hg28 (xne hs_a0 hs_wc (by decide))).trans ((xs_a hg27 (xne hs_a0 hs_wc (by decide))).trans ((xs_a hg25 (xne hs_a0 hs_wc (by decide))).trans ((xs_a hg24 (xne hs_a0 hs_wc (by decide))).trans ((xs_a hg21 (xne hs_a0 hs_wc (by decide))).trans ((xs_a hg14 (xne hs_a0 hs_wc (by decide))).trans ((xs_a hg7 (xne hs_a0 hs_wc (by decide))).trans ems)))))))))) hs_ms) hs_a0 ⟨by decide, rfl⟩ kd28_6.2.2.2.2.2.2.2.2.2.2.2 rfl rfl (by simp [Value.category]) (by decide) (by decide) (by decide) (by decide) (fun r32 S34 g33 pr32 qr32 hg33 => ?_)
        obtain ⟨rfl, rfl, z35, rfl, lz35, uz35, k36⟩ := pr32
        refine X_st [.int (iI z35), .int (iI 10), .ref wc] rfl ?_
        refine X_iast hK hs_wc (by decide) (by decide) sl_16300 (by omega) (by omega) (by omega) (by omega) kd28_7.1 (fun g37 hg37 => ?_)
        refine X_aloadn hK (i := 0) 0 kd28_7.2.1 rfl rfl ?_
        refine X_getK hK fl_X12_80_13 hs_a0 ((xs_a hg37 (xne hs_a0 hs_wc (by decide))).trans ((xs_a hg31 (xne hs_a0 hs_wc (by decide))).trans ((xs_a hg30 (xne hs_a0 hs_wc (by decide))).trans ((xs_a hg29 (xne hs_a0 hs_wc (by decide))).trans ((xs_a hg28 (xne hs_a0 hs_wc (by decide))).trans ((xs_a hg27 (xne hs_a0 hs_wc (by decide))).trans ((xs_a hg25 (xne hs_a0 hs_wc (by decide))).trans ((xs_a hg24 (xne hs_a0 hs_wc (by decide))).trans ((xs_a hg21 (xne hs_a0 hs_wc (by decide))).trans ((xs_a hg14 (xne hs_a0 hs_wc (by decide))).trans ((xs_a hg7 (xne hs_a0 hs_wc (by decide))).trans ewc))))))))))) kd28_7.2.2.1 ?_
        refine X_bipush hK kd28_7.2.2.2.1 (by decide) ?_
        refine X_aloadn hK (i := 0) 0 kd28_7.2.2.2.2.1 rfl rfl ?_
        refine X_getK hK fl_X12_19_13 hs_a0 ((xs_a hg37 (xne hs_a0 hs_wc (by decide))).trans ((xs_a hg31 (xne hs_a0 hs_wc (by decide))).trans ((xs_a hg30 (xne hs_a0 hs_wc (by decide))).trans ((xs_a hg29 (xne hs_a0 hs_wc (by decide))).trans ((xs_a hg28 (xne hs_a0 hs_wc (by decide))).trans ((xs_a hg27 (xne hs_a0 hs_wc (by decide))).trans ((xs_a hg25 (xne hs_a0 hs_wc (by decide))).trans ((xs_a hg24 (xne hs_a0 hs_wc (by decide))).trans ((xs_a hg21 (xne hs_a0 hs_wc (by decide))).trans ((xs_a hg14 (xne hs_a0 hs_wc (by decide))).trans ((xs_a hg7 (xne hs_a0 hs_wc (by decide))).trans ewfi))))))))))) kd28_7.2.2.2.2.2.1 ?_
        refine X_iloadn hK (i := 1) 1 kd28_7.2.2.2.2.2.2.1 rfl rfl ?_
        refine X_iald hK hs_wfi (by decide) sl_14400 (by omega) (by omega) kd28_7.2.2.2.2.2.2.2.1 (fun z38 ez38 lz38 uz38 => ?_)
        have hw39 : xv g wfi x1 = z38 := (by rw [← (Eq.trans (Eq.trans (Eq.trans (Eq.trans (Eq.trans (Eq.trans (Eq.trans (Eq.trans (Eq.trans (Eq.trans (xv_a hg37 (xne hs_wfi hs_wc (by decide))) (xv_a hg31 (xne hs_wfi hs_wc (by decide)))) (xv_a hg30 (xne hs_wfi hs_wc (by decide)))) (xv_a hg29 (xne hs_wfi hs_wc (by decide)))) (xv_a hg28 (xne hs_wfi hs_wc (by decide)))) (xv_a hg27 (xne hs_wfi hs_wc (by decide)))) (xv_a hg25 (xne hs_wfi hs_wc (by decide)))) (xv_a hg24 (xne hs_wfi hs_wc (by decide)))) (xv_a hg21 (xne hs_wfi hs_wc (by decide)))) (xv_a hg14 (xne hs_wfi hs_wc (by decide)))) (xv_a hg7 (xne hs_wfi hs_wc (by decide))))]; exact (xv_e (j := x1) ez38 (by omega)))
        refine X_iast hK hs_wc (by decide) (by decide) sl_16300 (by omega) (by omega) (by omega) (by omega) kd28_7.2.2.2.2.2.2.2.2.1 (fun g40 hg40 => ?_)
        exact hret _ _ _ _ _ _ kd28_7.2.2.2.2.2.2.2.2.2.1 ⟨rfl, rfl, (xFa.mk (by rw [(show xv g40 wc 0 = z4 from by rw [(xv_k (i := 0) hg40 (by omega) (by omega) (by omega)), (xv_k (i := 0) hg37 (by omega) (by omega) (by omega)), (xv_k (i := 0) hg31 (by omega) (by omega) (by omega)), (xv_k (i := 0) hg30 (by omega) (by omega) (by omega)), (xv_k (i := 0) hg29 (by omega) (by omega) (by omega)), (xv_k (i := 0) hg28 (by omega) (by omega) (by omega)), (xv_k (i := 0) hg27 (by omega) (by omega) (by omega)), (xv_k (i := 0) hg25 (by omega) (by omega) (by omega)), (xv_k (i := 0) hg24 (by omega) (by omega) (by omega)), (xv_k (i := 0) hg21 (by omega) (by omega) (by omega)), (xv_k (i := 0) hg14 (by omega) (by omega) (by omega)), xv_s hg7 (by omega)])]; exact m6) (by rw [(show xv g40 wc 1 = z11 from by rw [(xv_k (i := 1) hg40 (by omega) (by omega) (by omega)), (xv_k (i := 1) hg37 (by omega) (by omega) (by omega)), (xv_k (i := 1) hg31 (by omega) (by omega) (by omega)), (xv_k (i := 1) hg30 (by omega) (by omega) (by omega)), (xv_k (i := 1) hg29 (by omega) (by omega) (by omega)), (xv_k (i := 1) hg28 (by omega) (by omega) (by omega)), (xv_k (i := 1) hg27 (by omega) (by omega) (by omega)), (xv_k (i := 1) hg25 (by omega) (by omega) (by omega)), (xv_k (i := 1) hg24 (by omega) (by omega) (by omega)), (xv_k (i := 1) hg21 (by omega) (by omega) (by omega)), xv_s hg14 (by omega)])]; exact m13) (by rw [(show xv g40 wc 2 = z18 from by rw [(xv_k (i := 2) hg40 (by omega) (by omega) (by omega)), (xv_k (i := 2) hg37 (by omega) (by omega) (by omega)), (xv_k (i := 2) hg31 (by omega) (by omega) (by omega)), (xv_k (i := 2) hg30 (by omega) (by omega) (by omega)), (xv_k (i := 2) hg29 (by omega) (by omega) (by omega)), (xv_k (i := 2) hg28 (by omega) (by omega) (by omega)), (xv_k (i := 2) hg27 (by omega) (by omega) (by omega)), (xv_k (i := 2) hg25 (by omega) (by omega) (by omega)), (xv_k (i := 2) hg24 (by omega) (by omega) (by omega)), xv_s hg21 (by omega)])]; exact m20) (by rw [(show xv g40 wc 3 = z22 from by rw [(xv_k (i := 3) hg40 (by omega) (by omega) (by omega)), (xv_k (i := 3) hg37 (by omega) (by omega) (by omega)), (xv_k (i := 3) hg31 (by omega) (by omega) (by omega)), (xv_k (i := 3) hg30 (by omega) (by omega) (by omega)), (xv_k (i := 3) hg29 (by omega) (by omega) (by omega)), (xv_k (i := 3) hg28 (by omega) (by omega) (by omega)), (xv_k (i := 3) hg27 (by omega) (by omega) (by omega)), (xv_k (i := 3) hg25 (by omega) (by omega) (by omega)), xv_s hg24 (by omega)])]; exact hw23.symm) (by rw [(show xv g40 wc 4 = x5 from by rw [(xv_k (i := 4) hg40 (by omega) (by omega) (by omega)), (xv_k (i := 4) hg37 (by omega) (by omega) (by omega)), (xv_k (i := 4) hg31 (by omega) (by omega) (by omega)), (xv_k (i := 4) hg30 (by omega) (by omega) (by omega)), (xv_k (i := 4) hg29 (by omega) (by omega) (by omega)), (xv_k (i := 4) hg28 (by omega) (by omega) (by omega)), (xv_k (i := 4) hg27 (by omega) (by omega) (by omega)), xv_s hg25 (by omega)])]; rfl) (by rw [(show xv g40 wc 5 = z26 from by rw [(xv_k (i := 5) hg40 (by omega) (by omega) (by omega)), (xv_k (i := 5) hg37 (by omega) (by omega) (by omega)), (xv_k (i := 5) hg31 (by omega) (by omega) (by omega)), (xv_k (i := 5) hg30 (by omega) (by omega) (by omega)), (xv_k (i := 5) hg29 (by omega) (by omega) (by omega)), (xv_k (i := 5) hg28 (by omega) (by omega) (by omega)), xv_s hg27 (by omega)])]; show _ = x6 % 7; omega) (by rw [(show xv g40 wc 6 = x6 from by rw [(xv_k (i := 6) hg40 (by omega) (by omega) (by omega)), (xv_k (i := 6) hg37 (by omega) (by omega) (by omega)), (xv_k (i := 6) hg31 (by omega) (by omega) (by omega)), (xv_k (i := 6) hg30 (by omega) (by omega) (by omega)), (xv_k (i := 6) hg29 (by omega) (by omega) (by omega)), xv_s hg28 (by omega)])]; rfl) (by rw [(show xv g40 wc 7 = x2 from by rw [(xv_k (i := 7) hg40 (by omega) (by omega) (by omega)), (xv_k (i := 7) hg37 (by omega) (by omega) (by omega)), (xv_k (i := 7) hg31 (by omega) (by omega) (by omega)), (xv_k (i := 7) hg30 (by omega) (by omega) (by omega)), xv_s hg29 (by omega)])]; rfl) (by rw [(show xv g40 wc 8 = x3 from by rw [(xv_k (i := 8) hg40 (by omega) (by omega) (by omega)), (xv_k (i := 8) hg37 (by omega) (by omega) (by omega)), (xv_k (i := 8) hg31 (by omega) (by omega) (by omega)), xv_s hg30 (by omega)])]; rfl) (by rw [(show xv g40 wc 9 = x4 from by rw [(xv_k (i := 9) hg40 (by omega) (by omega) (by omega)), (xv_k (i := 9) hg37 (by omega) (by omega) (by omega)), xv_s hg31 (by omega)])]; rfl) (by rw [(show xv g40 wc 10 = z35 from by rw [(xv_k (i := 10) hg40 (by omega) (by omega) (by omega)), xv_s hg37 (by omega)])]; exact (by have h9 := k36; rw [(Eq.trans (Eq.trans (Eq.trans (Eq.trans (Eq.trans (Eq.trans (Eq.trans (Eq.trans (Eq.trans (xv_a hg31 (xne hs_ms hs_wc (by decide))) (xv_a hg30 (xne hs_ms hs_wc (by decide)))) (xv_a hg29 (xne hs_ms hs_wc (by decide)))) (xv_a hg28 (xne hs_ms hs_wc (by decide)))) (xv_a hg27 (xne hs_ms hs_wc (by decide)))) (xv_a hg25 (xne hs_ms hs_wc (by decide)))) (xv_a hg24 (xne hs_ms hs_wc (by decide)))) (xv_a hg21 (xne hs_ms hs_wc (by decide)))) (xv_a hg14 (xne hs_ms hs_wc (by decide)))) (xv_a hg7 (xne hs_ms hs_wc (by decide))))] at h9; exact h9)) (by rw [(show xv g40 wc 11 = z38 from by rw [xv_s hg40 (by omega)])]; exact hw39.symm))⟩ (Nat.le_refl _) (Nat.le_refl _)
      refine X_icmp_ne hK 61 (by omega) (by omega) kd28_2.2.2.2.2.2.2.2.2.2.1 (by decide) (fun c17 => ?_) (fun c17 => ?_)
      · refine X_iconst hK kd28_3.1 ?_
        exact J19 0 (by omega) (by omega) (by rw [hw16, if_neg (by omega)])
      · refine X_iconst hK kd28_2.2.2.2.2.2.2.2.2.2.2.1 ?_
        refine X_goto hK 62 kd28_2.2.2.2.2.2.2.2.2.2.2.2 (by decide) ?_
        exact J19 1 (by omega) (by omega) (by rw [hw16, if_pos (by omega)])
    refine X_icmp_gt hK 40 (by omega) (by omega) kd28_1.2.2.2.2.2.2.2.2.1 (by decide) (fun c10 => ?_) (fun c10 => ?_)
    · refine X_iconst hK kd28_1.2.2.2.2.2.2.2.2.2.2.2 ?_
      exact J12 0 (by omega) (by omega) (by rw [hw9, if_neg (by omega)])
    · refine X_iconst hK kd28_1.2.2.2.2.2.2.2.2.2.1 ?_
      refine X_goto hK 41 kd28_1.2.2.2.2.2.2.2.2.2.2.1 (by decide) ?_
      exact J12 1 (by omega) (by omega) (by rw [hw9, if_pos (by omega)])
  refine X_if_eq hK 18 (by omega) kd28_0.2.2.2.2.2.2.2.1 (by decide) (fun c3 => ?_) (fun c3 => ?_)
  · refine X_iconst hK kd28_0.2.2.2.2.2.2.2.2.2.2.1 ?_
    exact J5 0 (by omega) (by omega) (by rw [hw2]; omega)
  · refine X_iconst hK kd28_0.2.2.2.2.2.2.2.2.1 ?_
    refine X_goto hK 19 kd28_0.2.2.2.2.2.2.2.2.2.1 (by decide) ?_
    exact J5 1 (by omega) (by omega) (by rw [hw2]; omega)

set_option maxHeartbeats 4000000 in
set_option maxRecDepth 100000 in
theorem m_isAhead (l : Launch) (D : va_G) (kA : Nat → ClassId) (b0 : Nat) (t0 : Nat → Nat) (S : xT) (g : xG) (a0 : Nat) (a1 : Nat) (a2 : Nat) (ct : Nat) (ow : Nat) (ya : Nat) (na : Int) (fa : Int) (qa : Int) (ca : Int) (ha : Int) (yb : Nat) (nb : Int) (fb : Int) (qb : Int) (cb : Int) (hb : Int) (hs_a0 : S a0 = some (6, 0)) (hs_a1 : S a1 = some (2, 0)) (hs_a2 : S a2 = some (2, 0)) (ect : g a0 0 = .ref ct) (hs_ct : S ct = some (4, 0)) (eow : g ct 5 = .ref ow) (hs_ow : S ow = some (11400, 10)) (eya : g a1 0 = .ref ya) (hs_ya : S ya = some (1, 0)) (hna : (-2147483648) ≤ na ∧ na ≤ 2147483647) (ena : g ya 0 = .int (iI na)) (hfa : 0 ≤ fa ∧ fa ≤ 99) (efa : g ya 3 = .int (iI fa)) (hqa : 0 ≤ qa ∧ qa ≤ 3) (eqa : g a1 1 = .int (iI qa)) (hca : 0 ≤ ca ∧ ca ≤ 9) (eca : g a1 2 = .int (iI ca)) (hha : 0 ≤ ha ∧ ha ≤ 31) (eha : g a1 4 = .int (iI ha)) (eyb : g a2 0 = .ref yb) (hs_yb : S yb = some (1, 0)) (hnb : (-2147483648) ≤ nb ∧ nb ≤ 2147483647) (enb : g yb 0 = .int (iI nb)) (hfb : 0 ≤ fb ∧ fb ≤ 99) (efb : g yb 3 = .int (iI fb)) (hqb : 0 ≤ qb ∧ qb ≤ 3) (eqb : g a2 1 = .int (iI qb)) (hcb : 0 ≤ cb ∧ cb ≤ 9) (ecb : g a2 2 = .int (iI cb)) (hhb : 0 ≤ hb ∧ hb ≤ 31) (ehb : g a2 4 = .int (iI hb)) : xMt l yX5_isAhead cX5_isAhead 3 (some .boolean) 1 0 0 21 D kA b0 t0 [] [.ref a0, .ref a1, .ref a2] S g (fun (r : Option Value) (S1 : xT) (g1 : xG) => S = S1 ∧ g = g1 ∧ ∃ z : Int, r = some (.int (iI z)) ∧ 0 ≤ z ∧ z ≤ 1 ∧ ((z = 1 ↔ xky9 ca qa ha (if xv g ow ca = na then 1 else 0) fa < xky9 cb qb hb (if xv g ow cb = nb then 1 else 0) fb))) := by
  refine xEnterZ (by decide) (by simp [lg_sl, Value.category]) [(0, .ref a0), (1, .ref a1), (2, .ref a2)] rfl ?_
  intro K E hK hret _ _ _
  refine X_aloadn hK (i := 1) 1 kd32_23.2.2.1 rfl rfl ?_
  refine X_getK hK fl_X5_80_2 hs_a1 eca kd32_23.2.2.2.1 ?_
  refine X_aloadn hK (i := 2) 2 kd32_23.2.2.2.2.1 rfl rfl ?_
  refine X_getK hK fl_X5_80_2 hs_a2 ecb kd32_23.2.2.2.2.2.1 ?_
  refine X_icmp_eq hK 28 (by omega) (by omega) kd32_23.2.2.2.2.2.2.1 (by decide) (fun c1 => ?_) (fun c1 => ?_)
  · refine X_aloadn hK (i := 1) 1 kd32_24.2.2.2.2.1 rfl rfl ?_
    refine X_getK hK fl_X5_77_2 hs_a1 eqa kd32_24.2.2.2.2.2.1 ?_
    refine X_aloadn hK (i := 2) 2 kd32_24.2.2.2.2.2.2.1 rfl rfl ?_
    refine X_getK hK fl_X5_77_2 hs_a2 eqb kd32_24.2.2.2.2.2.2.2.1 ?_
    refine X_icmp_eq hK 56 (by omega) (by omega) kd32_24.2.2.2.2.2.2.2.2.1 (by decide) (fun c2 => ?_) (fun c2 => ?_)
    · refine X_aloadn hK (i := 1) 1 kd32_25.2.2.2.2.2.2.1 rfl rfl ?_
      refine X_getK hK fl_X5_74_2 hs_a1 eha kd32_25.2.2.2.2.2.2.2.1 ?_
      refine X_aloadn hK (i := 2) 2 kd32_25.2.2.2.2.2.2.2.2.1 rfl rfl ?_
      refine X_getK hK fl_X5_74_2 hs_a2 ehb kd32_25.2.2.2.2.2.2.2.2.2.1 ?_
      refine X_icmp_eq hK 84 (by omega) (by omega) kd32_25.2.2.2.2.2.2.2.2.2.2.1 (by decide) (fun c3 => ?_) (fun c3 => ?_)
      · refine X_aloadn hK (i := 0) 0 kd32_26.2.2.2.2.2.2.2.2.1 rfl rfl ?_
        refine X_aloadn hK (i := 1) 1 kd32_26.2.2.2.2.2.2.2.2.2.1 rfl rfl ?_
        refine X_callV hK [.ref a1] [] lk_X5_67 (m_isOwners _ _ _ _ _ S g a0 a1 ct ow ya na ca hs_a0 hs_a1 ect hs_ct eow hs_ow eya hs_ya (by omega) ena (by omega) eca) hs_a0 ⟨by decide, rfl⟩ kd32_26.2.2.2.2.2.2.2.2.2.2.1 rfl rfl (by simp [Value.category]) (by decide) (by decide) (by decide) (by decide) (fun r4 S6 g5 pr4 qr4 hg5 => ?_)
        obtain ⟨rfl, rfl, z7, rfl, lz7, uz7, k8⟩ := pr4
        refine X_st [.int (iI z7)] rfl ?_
        have ho9 : (if xv g ow ca = na then (1 : Int) else 0) = z7 := xowE k8 (by omega)
        clear k8
        refine X_aloadn hK (i := 0) 0 kd32_26.2.2.2.2.2.2.2.2.2.2.2 rfl rfl ?_
        refine X_aloadn hK (i := 2) 2 kd32_27.1 rfl rfl ?_
        refine X_callV hK [.ref a2] [.int (iI z7)] lk_X5_67 (m_isOwners _ _ _ _ _ S g a0 a2 ct ow yb nb cb hs_a0 hs_a2 ect hs_ct eow hs_ow eyb hs_yb (by omega) enb (by omega) ecb) hs_a0 ⟨by decide, rfl⟩ kd32_27.2.1 rfl rfl (by simp [Value.category]) (by decide) (by decide) (by decide) (by decide) (fun r10 S12 g11 pr10 qr10 hg11 => ?_)
        obtain ⟨rfl, rfl, z13, rfl, lz13, uz13, k14⟩ := pr10
        refine X_st [.int (iI z13), .int (iI z7)] rfl ?_
        have ho15 : (if xv g ow cb = nb then (1 : Int) else 0) = z13 := xowE k14 (by omega)
        clear k14
        refine X_icmp_eq hK 103 (by omega) (by omega) kd32_27.2.2.1 (by decide) (fun c16 => ?_) (fun c16 => ?_)
        · refine X_aloadn hK (i := 1) 1 kd32_27.2.2.2.2.2.2.2.1 rfl rfl ?_
          refine X_getK hK fl_X5_49_2 hs_a1 eya kd32_27.2.2.2.2.2.2.2.2.1 ?_
          refine X_getK hK fl_X5_89_1 hs_ya efa kd32_27.2.2.2.2.2.2.2.2.2.1 ?_
          refine X_aloadn hK (i := 2) 2 kd32_27.2.2.2.2.2.2.2.2.2.2.1 rfl rfl ?_
          refine X_getK hK fl_X5_49_2 hs_a2 eyb kd32_27.2.2.2.2.2.2.2.2.2.2.2 ?_
          refine X_getK hK fl_X5_89_1 hs_yb efb kd32_28.1 ?_
          refine X_icmp_le hK 124 (by omega) (by omega) kd32_28.2.1 (by decide) (fun c17 => ?_) (fun c17 => ?_)
          · refine X_iconst hK kd32_28.2.2.2.2.1 ?_
            exact hret _ _ _ _ _ _ _ kd32_28.2.2.2.2.2.1 (by omega) (by omega) ⟨rfl, rfl, 0, rfl, (by omega), (by omega), (by unfold xky9; rw [ho9, ho15]; omega)⟩ (Nat.le_refl _) (Nat.le_refl _)
          · refine X_iconst hK kd32_28.2.2.1 ?_
            refine X_goto hK 125 kd32_28.2.2.2.1 (by decide) ?_
            exact hret _ _ _ _ _ _ _ kd32_28.2.2.2.2.2.1 (by omega) (by omega) ⟨rfl, rfl, 1, rfl, (by omega), (by omega), (by unfold xky9; rw [ho9, ho15]; omega)⟩ (Nat.le_refl _) (Nat.le_refl _)
        · refine X_aloadn hK (i := 0) 0 kd32_27.2.2.2.1 rfl rfl ?_
          refine X_aloadn hK (i := 1) 1 kd32_27.2.2.2.2.1 rfl rfl ?_
          refine X_callV hK [.ref a1] [] lk_X5_67 (m_isOwners _ _ _ _ _ S g a0 a1 ct ow ya na ca hs_a0 hs_a1 ect hs_ct eow hs_ow eya hs_ya (by omega) ena (by omega) eca) hs_a0 ⟨by decide, rfl⟩ kd32_27.2.2.2.2.2.1 rfl rfl (by simp [Value.category]) (by decide) (by decide) (by decide) (by decide) (fun r18 S20 g19 pr18 qr18 hg19 => ?_)
          obtain ⟨rfl, rfl, z21, rfl, lz21, uz21, k22⟩ := pr18
          refine X_st [.int (iI z21)] rfl ?_
          have ho23 : (if xv g ow ca = na then (1 : Int) else 0) = z21 := xowE k22 (by omega)
          clear k22
          exact hret _ _ _ _ _ _ _ kd32_27.2.2.2.2.2.2.1 (by omega) (by omega) ⟨rfl, rfl, z21, rfl, (by omega), (by omega), (by unfold xky9; rw [ho23, ho15]; omega)⟩ (Nat.le_refl _) (Nat.le_refl _)
      · refine X_aloadn hK (i := 1) 1 kd32_25.2.2.2.2.2.2.2.2.2.2.2 rfl rfl ?_
        refine X_getK hK fl_X5_74_2 hs_a1 eha kd32_26.1 ?_
        refine X_aloadn hK (i := 2) 2 kd32_26.2.1 rfl rfl ?_
        refine X_getK hK fl_X5_74_2 hs_a2 ehb kd32_26.2.2.1 ?_
        refine X_icmp_ge hK 82 (by omega) (by omega) kd32_26.2.2.2.1 (by decide) (fun c24 => ?_) (fun c24 => ?_)
        · refine X_iconst hK kd32_26.2.2.2.2.2.2.1 ?_
          exact hret _ _ _ _ _ _ _ kd32_26.2.2.2.2.2.2.2.1 (by omega) (by omega) ⟨rfl, rfl, 0, rfl, (by omega), (by omega), (by have h8 := xow01 (xv g ow ca = na); have h7 := xow01 (xv g ow cb = nb); unfold xky9; generalize (if xv g ow ca = na then (1 : Int) else 0) = oa at h8 ⊢; generalize (if xv g ow cb = nb then (1 : Int) else 0) = ob at h7 ⊢; omega)⟩ (Nat.le_refl _) (Nat.le_refl _)
        · refine X_iconst hK kd32_26.2.2.2.2.1 ?_
          refine X_goto hK 83 kd32_26.2.2.2.2.2.1 (by decide) ?_
          exact hret _ _ _ _ _ _ _ kd32_26.2.2.2.2.2.2.2.1 (by omega) (by omega) ⟨rfl, rfl, 1, rfl, (by omega), (by omega), (by have h8 := xow01 (xv g ow ca = na); have h7 := xow01 (xv g ow cb = nb); unfold xky9; generalize (if xv g ow ca = na then (1 : Int) else 0) = oa at h8 ⊢; generalize (if xv g ow cb = nb then (1 : Int) else 0) = ob at h7 ⊢; omega)⟩ (Nat.le_refl _) (Nat.le_refl _)
    · refine X_aloadn hK (i := 1) 1 kd32_24.2.2.2.2.2.2.2.2.2.1 rfl rfl ?_
      refine X_getK hK fl_X5_77_2 hs_a1 eqa kd32_24.2.2.2.2.2.2.2.2.2.2.1 ?_
      refine X_aloadn hK (i := 2) 2 kd32_24.2.2.2.2.2.2.2.2.2.2.2 rfl rfl ?_
      refine X_getK hK fl_X5_77_2 hs_a2 eqb kd32_25.1 ?_
      refine X_icmp_ge hK 54 (by omega) (by omega) kd32_25.2.1 (by decide) (fun c25 => ?_) (fun c25 => ?_)
      · refine X_iconst hK kd32_25.2.2.2.2.1 ?_
        exact hret _ _ _ _ _ _ _ kd32_25.2.2.2.2.2.1 (by omega) (by omega) ⟨rfl, rfl, 0, rfl, (by omega), (by omega), (by have h8 := xow01 (xv g ow ca = na); have h7 := xow01 (xv g ow cb = nb); unfold xky9; generalize (if xv g ow ca = na then (1 : Int) else 0) = oa at h8 ⊢; generalize (if xv g ow cb = nb then (1 : Int) else 0) = ob at h7 ⊢; omega)⟩ (Nat.le_refl _) (Nat.le_refl _)
      · refine X_iconst hK kd32_25.2.2.1 ?_
        refine X_goto hK 55 kd32_25.2.2.2.1 (by decide) ?_
        exact hret _ _ _ _ _ _ _ kd32_25.2.2.2.2.2.1 (by omega) (by omega) ⟨rfl, rfl, 1, rfl, (by omega), (by omega), (by have h8 := xow01 (xv g ow ca = na); have h7 := xow01 (xv g ow cb = nb); unfold xky9; generalize (if xv g ow ca = na then (1 : Int) else 0) = oa at h8 ⊢; generalize (if xv g ow cb = nb then (1 : Int) else 0) = ob at h7 ⊢; omega)⟩ (Nat.le_refl _) (Nat.le_refl _)
  · refine X_aloadn hK (i := 1) 1 kd32_23.2.2.2.2.2.2.2.1 rfl rfl ?_
    refine X_getK hK fl_X5_80_2 hs_a1 eca kd32_23.2.2.2.2.2.2.2.2.1 ?_
    refine X_aloadn hK (i := 2) 2 kd32_23.2.2.2.2.2.2.2.2.2.1 rfl rfl ?_
    refine X_getK hK fl_X5_80_2 hs_a2 ecb kd32_23.2.2.2.2.2.2.2.2.2.2.1 ?_
    refine X_icmp_ge hK 26 (by omega) (by omega) kd32_23.2.2.2.2.2.2.2.2.2.2.2 (by decide) (fun c26 => ?_) (fun c26 => ?_)
    · refine X_iconst hK kd32_24.2.2.1 ?_
      exact hret _ _ _ _ _ _ _ kd32_24.2.2.2.1 (by omega) (by omega) ⟨rfl, rfl, 0, rfl, (by omega), (by omega), (by have h8 := xow01 (xv g ow ca = na); have h7 := xow01 (xv g ow cb = nb); unfold xky9; generalize (if xv g ow ca = na then (1 : Int) else 0) = oa at h8 ⊢; generalize (if xv g ow cb = nb then (1 : Int) else 0) = ob at h7 ⊢; omega)⟩ (Nat.le_refl _) (Nat.le_refl _)
    · refine X_iconst hK kd32_24.1 ?_
      refine X_goto hK 27 kd32_24.2.1 (by decide) ?_
      exact hret _ _ _ _ _ _ _ kd32_24.2.2.2.1 (by omega) (by omega) ⟨rfl, rfl, 1, rfl, (by omega), (by omega), (by have h8 := xow01 (xv g ow ca = na); have h7 := xow01 (xv g ow cb = nb); unfold xky9; generalize (if xv g ow ca = na then (1 : Int) else 0) = oa at h8 ⊢; generalize (if xv g ow cb = nb then (1 : Int) else 0) = ob at h7 ⊢; omega)⟩ (Nat.le_refl _) (Nat.le_refl _)
