
theorem xzm.add {f h : Int → Int} : ∀ n : Nat, xzm (fun k => f k + h k) n = xzm f n + xzm h n := by
  intro n
  induction n with
  | zero => rfl
  | succ m ih =>
    show xzm (fun k => f k + h k) m + (f (m : Int) + h (m : Int)) = xzm f m + f (m : Int) + (xzm h m + h (m : Int))
    rw [ih]
    omega
theorem xzm.s3 {f : Int → Int} {i : Int} (hi : 0 ≤ i) : xzm f (i + 1).toNat = xzm f i.toNat + f i := by
  rw [show (i + 1).toNat = i.toNat + 1 by omega]
  show xzm f i.toNat + f ((i.toNat : Nat) : Int) = _
  rw [show ((i.toNat : Nat) : Int) = i by omega]
def xTS (n : Nat) (Y : Nat → Int → Int) (K may : Int → Int) (ask : Int → Int → Int → Int) (T : List xL3) (F : Int → Int → Int) (td e : Int) (s : Int → Int) (g6 g7 : Int) : Prop := (∀ d : Int, 0 ≤ d → d < td → d < e → xSd n (Y 5) (Y 2) (Y 1) (Y 3) K may (ask d) d s) ∧ g6 = xwp (xzm (fun k => if Y 5 k < td ∧ Y 5 k < e then xwh9 2 T F (Y 3) s k else 0) n) ∧ g7 = xwp (xzm (fun k => if Y 5 k < td ∧ Y 5 k < e then xwh9 1 T F (Y 3) s k else 0) n)
section XTS
variable {n : Nat} {Y : Nat → Int → Int} {K may : Int → Int} {ask : Int → Int → Int → Int} {T : List xL3} {F : Int → Int → Int} {td e e' d : Int} {s s' : Int → Int} {g6 g7 h6 h7 : Int}
theorem xTS.z (h : e ≤ 0) (hd : ∀ k : Int, 0 ≤ k → k < n → 0 ≤ Y 5 k) : xTS n Y K may ask T F td e s 0 0 := by
  refine ⟨fun d q1 q2 q3 => by omega, ?_, ?_⟩ <;>
  · rw [xzm.z n (fun k q1 q2 => if_neg (by have := hd k q1 q2; omega))]
    exact (xwp.id (by decide)).symm
theorem xSd.none (h : ∀ k : Int, 0 ≤ k → k < n → Y 5 k ≠ d) : xSd n (Y 5) (Y 2) (Y 1) (Y 3) K may (ask d) d s := fun k q1 q2 q3 => absurd q3 (h k q1 q2)
theorem xTS.skip (h : xTS n Y K may ask T F td e s g6 g7) (he : e ≤ e') (hn : ∀ k : Int, 0 ≤ k → k < n → Y 5 k < td → e ≤ Y 5 k → ¬ Y 5 k < e') : xTS n Y K may ask T F td e' s g6 g7 := by
  obtain ⟨h1, h2, h3⟩ := h
  have c : ∀ k : Int, 0 ≤ k → k < n → ((Y 5 k < td ∧ Y 5 k < e) ↔ (Y 5 k < td ∧ Y 5 k < e')) := fun k q1 q2 => by
    have := hn k q1 q2
    constructor
    · intro q; omega
    · intro q
      refine ⟨q.1, ?_⟩
      by_cases w : Y 5 k < e
      · exact w
      · exact absurd q.2 (this q.1 (by omega))
  refine ⟨fun d q1 q2 q3 => ?_, ?_, ?_⟩
  · by_cases w : d < e
    · exact h1 d q1 q2 w
    · exact xSd.none (fun k r1 r2 r3 => hn k r1 r2 (by omega) (by omega) (by omega))
  · rw [h2]
    congr 1
    refine xzm.cg n (fun k q1 q2 => ?_)
    show (if Y 5 k < td ∧ Y 5 k < e then _ else _) = (if Y 5 k < td ∧ Y 5 k < e' then _ else _)
    by_cases w : Y 5 k < td ∧ Y 5 k < e
    · rw [if_pos w, if_pos ((c k q1 q2).mp w)]
    · rw [if_neg w, if_neg (fun q => w ((c k q1 q2).mpr q))]
  · rw [h3]
    congr 1
    refine xzm.cg n (fun k q1 q2 => ?_)
    show (if Y 5 k < td ∧ Y 5 k < e then _ else _) = (if Y 5 k < td ∧ Y 5 k < e' then _ else _)
    by_cases w : Y 5 k < td ∧ Y 5 k < e
    · rw [if_pos w, if_pos ((c k q1 q2).mp w)]
    · rw [if_neg w, if_neg (fun q => w ((c k q1 q2).mpr q))]
def xmg9 (Y : Nat → Int → Int) (d : Int) (s' s : Int → Int) : Int → Int := fun k => if Y 5 k = d then s' k else s k
theorem xTS.sum {w : Nat} (hd : e ≤ d ∧ d < td) (hn : ∀ k : Int, 0 ≤ k → k < n → Y 5 k < td → e ≤ Y 5 k → Y 5 k < d + 1 → Y 5 k = d) : xzm (fun k => if Y 5 k < td ∧ Y 5 k < d + 1 then xwh9 w T F (Y 3) (xmg9 Y d s' s) k else 0) n = xzm (fun k => if Y 5 k < td ∧ Y 5 k < e then xwh9 w T F (Y 3) s k else 0) n + xzm (fun k => if Y 5 k = d then xwh9 w T F (Y 3) s' k else 0) n := by
  rw [← xzm.add]
  refine xzm.cg n (fun k q1 q2 => ?_)
  show (if Y 5 k < td ∧ Y 5 k < d + 1 then _ else _) = (if Y 5 k < td ∧ Y 5 k < e then _ else _) + (if Y 5 k = d then _ else _)
  by_cases c : Y 5 k = d
  · rw [if_pos (by omega), if_neg (by omega), if_pos c, Int.zero_add]
    exact xwh9.cg rfl rfl (if_pos c)
  · by_cases w : Y 5 k < td ∧ Y 5 k < e
    · rw [if_pos (by omega), if_pos w, if_neg c, Int.add_zero]
      exact xwh9.cg rfl rfl (if_neg c)
    · rw [if_neg (fun q => c (hn k q1 q2 q.1 (by omega) q.2)), if_neg w, if_neg c]
      rfl
theorem xTS.day (h : xTS n Y K may ask T F td e s g6 g7) (hd : 0 ≤ e ∧ e ≤ d ∧ d < td) (hn : ∀ k : Int, 0 ≤ k → k < n → Y 5 k < td → e ≤ Y 5 k → Y 5 k < d + 1 → Y 5 k = d) (hs : xSd n (Y 5) (Y 2) (Y 1) (Y 3) K may (ask d) d s') (e6 : h6 = xwp (g6 + xzm (fun k => if Y 5 k = d then xwh9 2 T F (Y 3) s' k else 0) n)) (e7 : h7 = xwp (g7 + xzm (fun k => if Y 5 k = d then xwh9 1 T F (Y 3) s' k else 0) n)) : xTS n Y K may ask T F td (d + 1) (xmg9 Y d s' s) h6 h7 := by
  obtain ⟨h1, h2, h3⟩ := h
  have mg : ∀ {x : Int} {f : Int → Int}, (∀ k : Int, 0 ≤ k → k < n → Y 5 k = x → xmg9 Y d s' s k = f k) → xSd n (Y 5) (Y 2) (Y 1) (Y 3) K may (ask x) x f → xSd n (Y 5) (Y 2) (Y 1) (Y 3) K may (ask x) x (xmg9 Y d s' s) := fun {x f} hf w k q1 q2 q3 => by
    rw [hf k q1 q2 q3, w k q1 q2 q3]
    have l := xlft.cg (s := f) (s' := xmg9 Y d s' s) (d := x) (ask := ask x) (ask' := ask x) (K := K) (K' := K) (dy := Y 5) (dy' := Y 5) (co := Y 2) (co' := Y 2) (pa := Y 1) (pa' := Y 1) ⟨q1, q2⟩ (fun j _ _ => ⟨rfl, rfl, rfl, rfl⟩) rfl (fun j r1 r2 r3 _ => (hf j r1 r2 r3).symm)
    rw [l]
  refine ⟨fun x q1 q2 q3 => ?_, ?_, ?_⟩
  · by_cases c : x = d
    · rw [c]
      exact mg (fun k r1 r2 r3 => if_pos r3) hs
    · by_cases w : x < e
      · exact mg (fun k r1 r2 r3 => if_neg (by omega)) (h1 x q1 q2 w)
      · exact xSd.none (fun k r1 r2 r3 => c (by have := hn k r1 r2 (by omega) (by omega) (by omega); omega))
  · rw [e6, h2, xTS.sum hd.2 hn, xwp.add]
  · rw [e7, h3, xTS.sum hd.2 hn, xwp.add]
theorem xTS.all (h : xTS n Y K may ask T F td e s g6 g7) (he : e ≤ td) (hn : ∀ k : Int, 0 ≤ k → k < n → Y 5 k < td → Y 5 k < e) : xTS n Y K may ask T F td td s g6 g7 := h.skip he (fun k q1 q2 q3 q4 => absurd (hn k q1 q2 q3) (by omega))
theorem xTS.cut (h : xTS n Y K may ask T F td e s g6 g7) (he : td ≤ e) : xTS n Y K may ask T F td td s g6 g7 := by
  obtain ⟨h1, h2, h3⟩ := h
  have c : ∀ k : Int, ((Y 5 k < td ∧ Y 5 k < e) ↔ (Y 5 k < td ∧ Y 5 k < td)) := fun k => by omega
  refine ⟨fun d q1 q2 q3 => h1 d q1 q2 (by omega), ?_, ?_⟩
  · rw [h2]
    congr 1
    refine xzm.cg n (fun k q1 q2 => ?_)
    show (if Y 5 k < td ∧ Y 5 k < e then _ else _) = (if Y 5 k < td ∧ Y 5 k < td then _ else _)
    by_cases w : Y 5 k < td ∧ Y 5 k < e
    · rw [if_pos w, if_pos ((c k).mp w)]
    · rw [if_neg w, if_neg (fun q => w ((c k).mpr q))]
  · rw [h3]
    congr 1
    refine xzm.cg n (fun k q1 q2 => ?_)
    show (if Y 5 k < td ∧ Y 5 k < e then _ else _) = (if Y 5 k < td ∧ Y 5 k < td then _ else _)
    by_cases w : Y 5 k < td ∧ Y 5 k < e
    · rw [if_pos w, if_pos ((c k).mp w)]
    · rw [if_neg w, if_neg (fun q => w ((c k).mpr q))]
end XTS
theorem xTri.det {nu nb td sm r6 r7 r6' r7' : Int} {Y YB : Nat → Int → Int} {T : List xL3} {ow ow' sk ms wt wt' ld ld' mw hd s s' : Int → Int} {WN HD : Int → Int → Int} (hn : 0 ≤ nu ∧ nu ≤ 200) (hu : ∀ k : Int, 0 ≤ k → k < nu → (0 ≤ Y 0 k ∧ Y 0 k < nb) ∧ xUr Y k) (hb : ∀ b : Int, 0 ≤ b → b < nb → xBr YB b) (how : xTc ow ow' 10) (hsk : xSm sk ms sm) (hwt : xTc wt wt' 4) (hld : xTc ld ld' 6) (hr : ∀ d : Int, 0 ≤ d → d < 400 → 0 ≤ sk d ∧ sk d ≤ 3) (hh : ∀ i : Int, 0 ≤ i → i < 1600 → 0 ≤ hd i ∧ hd i ≤ 5) (htd : 0 ≤ td ∧ td ≤ 400) (hW : ∀ c p : Int, 0 ≤ c → c < 10 → 0 ≤ p → p < 4 → WN c p = mw (4 * c + p)) (hH : ∀ p d : Int, 0 ≤ p → p < 4 → 0 ≤ d → d < 400 → HD p d = hd (400 * p + d))
    (a : xTS nu.toNat Y (xKY Y YB ow) (fun k9 => xts9 T (xF9 YB Y ow sk k9) 4) (fun d9 c9 p9 => xas (WN c9 p9) (wt (sk d9)) (ld (HD p9 d9))) T (xF9 YB Y ow sk) td td s r6 r7)
    (a' : xTS nu.toNat Y (xKY Y YB ow') (fun k9 => xts9 T (xF9 YB Y ow' (fun d9 => if sm = 0 then 0 else if d9 < sm then ms d9 else 3) k9) 4) (fun d9 c9 p9 => xas (mw (4 * c9 + p9)) (wt' (if sm = 0 then 0 else if d9 < sm then ms d9 else 3)) (ld' (hd (400 * p9 + d9)))) T (xF9 YB Y ow' (fun d9 => if sm = 0 then 0 else if d9 < sm then ms d9 else 3)) td td s' r6' r7') : r6 = r6' ∧ r7 = r7' := by
  have key : ∀ k : Int, 0 ≤ k → k < ((nu.toNat : Nat) : Int) → Y 5 k < td → xF9 YB Y ow sk k = xF9 YB Y ow' (fun d9 => if sm = 0 then 0 else if d9 < sm then ms d9 else 3) k ∧ s k = s' k := fun k q1 q2 q3 => by
    have u := (hu k q1 (by omega)).2
    unfold xUr at u
    have d0 := u.2.2.2.2.1.1
    obtain ⟨hF, hs⟩ := xDay.det hn hu hb how hsk hwt hld hr hh ⟨d0, by omega⟩ hW hH (a.1 (Y 5 k) d0 q3 q3) (a'.1 (Y 5 k) d0 q3 q3)
    exact ⟨hF k q1 q2, hs k q1 q2 rfl⟩
  refine ⟨?_, ?_⟩
  · rw [a.2.1, a'.2.1]
    congr 1
    refine xzm.cg nu.toNat (fun k r1 r2 => ?_)
    show (if Y 5 k < td ∧ Y 5 k < td then _ else _) = (if Y 5 k < td ∧ Y 5 k < td then _ else _)
    by_cases c : Y 5 k < td ∧ Y 5 k < td
    · rw [if_pos c, if_pos c]; exact xwh9.cg (key k r1 r2 c.1).1 rfl (key k r1 r2 c.1).2
    · rw [if_neg c, if_neg c]
  · rw [a.2.2, a'.2.2]
    congr 1
    refine xzm.cg nu.toNat (fun k r1 r2 => ?_)
    show (if Y 5 k < td ∧ Y 5 k < td then _ else _) = (if Y 5 k < td ∧ Y 5 k < td then _ else _)
    by_cases c : Y 5 k < td ∧ Y 5 k < td
    · rw [if_pos c, if_pos c]; exact xwh9.cg (key k r1 r2 c.1).1 rfl (key k r1 r2 c.1).2
    · rw [if_neg c, if_neg c]
def xed9 (Y : Nat → Int → Int) (i : Int) : Int := if i = 0 then 0 else Y 5 (i - 1) + 1
theorem xed9.s {Y : Nat → Int → Int} {i : Int} (hi : 0 ≤ i) : xed9 Y (i + 1) = Y 5 i + 1 := by
  unfold xed9
  rw [if_neg (by omega), show i + 1 - 1 = i by omega]
theorem xed9.lt {Y : Nat → Int → Int} {u t i k : Int} (h : xMn u t Y) (hi : i ≤ u) (hk : 0 ≤ k ∧ k < i) : Y 5 k < xed9 Y i := by
  unfold xed9
  rw [if_neg (by omega)]
  have := h.1 k (i - 1) hk.1 (by omega) (by omega)
  omega
theorem xed9.b {Y : Nat → Int → Int} {u t i : Int} (h : xMn u t Y) (hd : ∀ k : Int, 0 ≤ k → k < u → 0 ≤ Y 5 k) (hi : 0 ≤ i ∧ i < u) : 0 ≤ xed9 Y i ∧ xed9 Y i ≤ Y 5 i + 1 := by
  unfold xed9
  have a := hd i hi.1 hi.2
  by_cases c : i = 0
  · rw [if_pos c]; omega
  · rw [if_neg c]
    have := h.1 (i - 1) i (by omega) (by omega) hi.2
    have b := hd (i - 1) (by omega) (by omega)
    omega
section XTT
variable {u t : Int} {Y : Nat → Int → Int} {K may : Int → Int} {ask : Int → Int → Int → Int} {T : List xL3} {F : Int → Int → Int} {td i : Int} {s s' : Int → Int} {g6 g7 h6 h7 : Int}
theorem xTS.s1 (h : xMn u t Y) (hd : ∀ k : Int, 0 ≤ k → k < u → 0 ≤ Y 5 k) (hi : 0 ≤ i ∧ i < u) (w : xTS u.toNat Y K may ask T F td (xed9 Y i) s g6 g7) (c : td ≤ Y 5 i ∨ (i ≠ 0 ∧ Y 5 (i - 1) = Y 5 i)) : xTS u.toNat Y K may ask T F td (xed9 Y (i + 1)) s g6 g7 := by
  have b := xed9.b h hd hi
  rw [xed9.s hi.1]
  refine w.skip (by omega) (fun k q1 q2 q3 q4 q5 => ?_)
  have lt : ¬ k < i := fun q => by have := xed9.lt h (by omega) ⟨q1, q⟩; omega
  have m := h.1 i k hi.1 (by omega) (by omega)
  rcases c with c | ⟨c, e⟩
  · omega
  · have x : xed9 Y i = Y 5 i + 1 := by unfold xed9; rw [if_neg c, e]
    omega
theorem xTS.s2 (h : xMn u t Y) (hd : ∀ k : Int, 0 ≤ k → k < u → 0 ≤ Y 5 k) (hi : 0 ≤ i ∧ i < u) (w : xTS u.toNat Y K may ask T F td (xed9 Y i) s g6 g7) (c : Y 5 i < td) (c2 : i = 0 ∨ Y 5 (i - 1) ≠ Y 5 i) (hs : xSd u.toNat (Y 5) (Y 2) (Y 1) (Y 3) K may (ask (Y 5 i)) (Y 5 i) s') (e6 : h6 = xwp (g6 + xzm (fun k => if Y 5 k = Y 5 i then xwh9 2 T F (Y 3) s' k else 0) u.toNat)) (e7 : h7 = xwp (g7 + xzm (fun k => if Y 5 k = Y 5 i then xwh9 1 T F (Y 3) s' k else 0) u.toNat)) : xTS u.toNat Y K may ask T F td (xed9 Y (i + 1)) (xmg9 Y (Y 5 i) s' s) h6 h7 := by
  have b := xed9.b h hd hi
  have le : xed9 Y i ≤ Y 5 i := by
    unfold xed9
    have a := hd i hi.1 hi.2
    by_cases z : i = 0
    · rw [if_pos z]; exact a
    · rw [if_neg z]
      have := h.1 (i - 1) i (by omega) (by omega) hi.2
      omega
  rw [xed9.s hi.1]
  refine w.day ⟨b.1, le, c⟩ (fun k q1 q2 q3 q4 q5 => ?_) hs e6 e7
  have lt : ¬ k < i := fun q => by have := xed9.lt h (by omega) ⟨q1, q⟩; omega
  have m := h.1 i k hi.1 (by omega) (by omega)
  omega
theorem xTS.fin (h : xMn u t Y) (hu : 0 ≤ u) (w : xTS u.toNat Y K may ask T F td (xed9 Y u) s g6 g7) : xTS u.toNat Y K may ask T F td td s g6 g7 := by
  by_cases c : xed9 Y u ≤ td
  · exact w.all c (fun k q1 q2 q3 => xed9.lt h (Int.le_refl _) ⟨q1, by omega⟩)
  · exact w.cut (by omega)
end XTT
theorem xMn.add {u t b p c cp ho cs : Int} {Y : Nat → Int → Int} (h : xMn u t Y) (hu : 0 ≤ u) : xMn (u + 1) t (xyn Y u b p c cp ho t cs) := by
  have y : xyn Y u b p c cp ho t cs 5 u = t := if_pos rfl
  refine ⟨fun j k q1 q2 q3 => ?_, fun k q1 q2 => ?_⟩
  · by_cases e : k = u
    · rw [e, y]
      by_cases e2 : j = u
      · rw [e2, y]; exact Int.le_refl _
      · rw [xyn.o e2]; exact h.2 j q1 (by omega)
    · rw [xyn.o e, xyn.o (by omega)]; exact h.1 j k q1 q2 (by omega)
  · by_cases e : k = u
    · rw [e, y]; exact Int.le_refl _
    · rw [xyn.o e]; exact h.2 k q1 (by omega)
theorem xBd.mn {tn : Int} {fr : Int → Int} {TT : Int → List xL3} {FF : Int → Int} {td nu nb b p c cp ho : Int} {Y YB : Nat → Int → Int} {r nu1 : Int} {Y1 YB1 : Nat → Int → Int} (h : xBd tn fr TT FF td nu nb b p c cp ho Y YB r nu1 Y1 YB1) (w : xMn nu td Y) (hu : 0 ≤ nu) : xMn nu1 td Y1 := by
  rcases h with ⟨_, _, e, e2, _⟩ | ⟨_, t, _, ⟨_, _, e, e2, _⟩ | ⟨_, _, e, e2, _⟩⟩
  · rw [e, e2]; exact w
  · rw [e, e2]; exact w
  · rw [e, e2]; exact w.add hu
theorem xMn.up {u t t' : Int} {Y Y' : Nat → Int → Int} (h : xMn u t Y) (ht : t ≤ t') (hY : Y' 5 = Y 5) : xMn u t' Y' := by
  unfold xMn
  rw [hY]
  exact ⟨h.1, fun k q1 q2 => by have := h.2 k q1 q2; omega⟩
set_option maxHeartbeats 4000000 in
set_option maxRecDepth 100000 in
theorem m_cryClosed2 (l : Launch) (D : va_G) (kA : Nat → ClassId) (b0 : Nat) (t0 : Nat → Nat) (S : xT) (g : xG) (a0 : Nat) (x1 : Int) (a2 : Nat) (bn : Nat) (bo : Nat) (w3 : Nat) (ct : Nat) (ow : Nat) (nu : Int) (nb : Int) (sk : Nat) (hg : Nat) (wt : Nat) (ld : Nat) (wg : Nat) (fa : Nat) (ln : Int) (wk : Nat) (wn : Nat) (wf : Nat) (wb : Nat) (ws : Nat) (c9 s9 : Nat) (U : Int → Nat) (B : Int → Nat) (Y : Nat → Int → Int) (YB : Nat → Int → Int) (T : List xL3) (WN : Int → Int → Int) (HD : Int → Int → Int) (hs_a0 : S a0 = some (6, 0)) (hx1 : 0 ≤ x1 ∧ x1 ≤ 400) (hs_a2 : S a2 = some (11, 0)) (ebn : g a0 2 = .ref bn) (hs_bn : S bn = some (100, 0)) (ebo : g a0 1 = .ref bo) (hs_bo : S bo = some (0, 0)) (ew3 : g a0 3 = .ref w3) (hs_w3 : S w3 = some (200, 0)) (ect : g a0 0 = .ref ct) (hs_ct : S ct = some (4, 0)) (eow : g ct 5 = .ref ow) (hs_ow : S ow = some (11400, 10)) (hnu : 0 ≤ nu ∧ nu ≤ 200) (enu : g bn 2 = .int (iI nu)) (hnb : 0 ≤ nb ∧ nb ≤ 40) (enb : g bo 2 = .int (iI nb)) (esk : g ct 0 = .ref sk) (hs_sk : S sk = some (10700, 400)) (ehg : g ct 1 = .ref hg) (hs_hg : S hg = some (10904, 4)) (ewt : g ct 2 = .ref wt) (hs_wt : S wt = some (11000, 4)) (eld : g ct 3 = .ref ld) (hs_ld : S ld = some (11100, 6)) (ewg : g ct 4 = .ref wg) (hs_wg : S wg = some (11304, 10)) (efa : g a0 4 = .ref fa) (hs_fa : S fa = some (12000, 12)) (hln : 0 ≤ ln ∧ ln ≤ 16) (eln : g a2 1 = .int (iI ln)) (ewk : g a2 3 = .ref wk) (hs_wk : S wk = some (13600, 16)) (ewn : g a2 4 = .ref wn) (hs_wn : S wn = some (13700, 16)) (ewf : g a2 5 = .ref wf) (hs_wf : S wf = some (13800, 16)) (ewb : g a2 6 = .ref wb) (hs_wb : S wb = some (13900, 16)) (ews : g a2 7 = .ref ws) (hs_ws : S ws = some (14000, 100)) (hp0 : xLs S g) (hp1 : xSi S t0) (hp2 : xQk S g w3 c9 s9) (hp3 : xUW S g bn nu nb U B Y) (hp4 : xBW S g bo nb B YB) (hp5 : xTc9 (xv g wk) (xv g wn) (xv g wf) (xv g wb) (xv g ws) ln T) (hp6 : xWW S g wg WN) (hp7 : xHW S g hg HD) (hp8 : xMn nu x1 Y) : xMu l yX5_cryClosed cX5_cryClosed 5 none 9 19 1680 217 D kA b0 t0 [(6, 5), (6, 6), (6, 7), (200, 0), (200, 2), (10403, 0), (200, 1), (12000, 0)] [.ref a0, .int (iI x1), .ref a2] S g (fun (r : Option Value) (S1 : xT) (g1 : xG) (dc ds : Nat) => xNw2 S S1 [10403] ∧ r = none ∧ (xLs S1 g1) ∧ (xSi S1 t0) ∧ (xQk S1 g1 w3 (c9 + dc) (s9 + ds)) ∧ (c9 + dc ≤ 9 ∧ s9 + ds ≤ 718) ∧ (∃ (s9 : Int → Int) (v6 v7 : Int), g1 a0 6 = .int (iI v6) ∧ g1 a0 7 = .int (iI v7) ∧ (-2147483648 ≤ v6 ∧ v6 ≤ 2147483647) ∧ (-2147483648 ≤ v7 ∧ v7 ≤ 2147483647) ∧ xTS nu.toNat Y (xKY Y YB (xv g ow)) (fun k9 => xts9 T ((xF9 YB Y (xv g ow) (xv g sk)) k9) 4) (fun d9 c9 p9 => xas (WN c9 p9) (xv g wt (xv g sk d9)) (xv g ld (HD p9 d9))) T (xF9 YB Y (xv g ow) (xv g sk)) x1 x1 s9 v6 v7)) := by
  refine xEnterUV (by decide) (by simp [lg_sl, Value.category]) [(0, .ref a0), (1, .int (iI x1)), (2, .ref a2)] rfl ?_
  intro K E hK hret hS0 _ hini ht
  subst ht
  refine X_aloadn hK (i := 0) 0 kd45_5.2.2.2.2.2.2.2.2.2.2.1 rfl rfl ?_
  refine X_callV hK [] [] lk_X5_116 (m_startSums _ _ _ _ _ S g a0 hs_a0) hs_a0 ⟨by decide, rfl⟩ kd45_5.2.2.2.2.2.2.2.2.2.2.2 rfl rfl (by simp [Value.category]) (by decide) (by omega) (by omega) (by decide) (fun r1 S3 g2 pr1 qr1 hg2 => ?_)
  obtain ⟨rfl, rfl, k4, k5, k6⟩ := pr1
  refine X_st [] rfl ?_
  refine X_iconst hK kd45_6.1 ?_
  refine X_istoren hK (i := 3) [(3, .int (iI 0)), (0, .ref a0), (1, .int (iI x1)), (2, .ref a2)] kd45_6.2.1 rfl (by decide) rfl ?_
  have P270 : ∀ (nP270 : Nat) (S217 : xT) (_ : xLe S S217) (_ : xNw2 S S217 [10403]) (g219 : xG) (_ : xM [(200, 0), (200, 2), (10403, 0), (200, 1), (12000, 0), (6, 5), (6, 7), (6, 6)] S g2 g219) (_ : xLs S217 g219) (dcS217 dsS217 : Nat) (_ : xQk S217 g219 w3 (c9 + dcS217) (s9 + dsS217)) (z218 : Int) (_ : 0 ≤ z218) (_ : z218 ≤ 200) (q220 : Int) (_ : (-2147483648) ≤ q220) (_ : q220 ≤ 2147483647) (_ : g219 a0 6 = .int (iI q220)) (q221 : Int) (_ : (-2147483648) ≤ q221) (_ : q221 ≤ 2147483647) (_ : g219 a0 7 = .int (iI q221)) (_ : ∃ s9 : Int → Int, xTS nu.toNat Y (xKY Y YB (xv g ow)) (fun k9 => xts9 T ((xF9 YB Y (xv g ow) (xv g sk)) k9) 4) (fun d9 c9 p9 => xas (WN c9 p9) (xv g wt (xv g sk d9)) (xv g ld (HD p9 d9))) T (xF9 YB Y (xv g ow) (xv g sk)) x1 (xed9 Y z218) s9 q220 q221) (_ : z218 ≤ nu) (_ : 300 - z218 < (nP270 : Int)), X K E 6 [(3, .int (iI z218)), (0, .ref a0), (1, .int (iI x1)), (2, .ref a2)] [] S217 g219 dcS217 dsS217 := by
    intro nP270
    induction nP270 with
    | zero => intro S217 qS217 wS217 g219 hg219 AS217 dcS217 dsS217 QS217 z218 lz218 uz218 q220 lq220 uq220 eq220 q221 lq221 uq221 eq221 v271 v272 mP270; exact False.elim (by omega)
    | succ nP270 ihP270 =>
      intro S217 qS217 wS217 g219 hg219 AS217 dcS217 dsS217 QS217 z218 lz218 uz218 q220 lq220 uq220 eq220 q221 lq221 uq221 eq221 v271 v272 mP270
      have qlS217 := xQk.le QS217
      refine X_iloadn hK (i := 3) 0 kd45_6.2.2.1 rfl rfl ?_
      obtain ⟨sts273, ts273⟩ := id v271
      refine X_aloadn hK (i := 0) 1 kd45_6.2.2.2.1 rfl rfl ?_
      refine X_getK hK fl_X5_25_6 (qS217 _ _ hs_a0) ((hg219 a0 6 0 2 hs_a0 (by decide)).trans ((hg2 a0 6 0 2 hs_a0 (by decide)).trans ebn)) kd45_6.2.2.2.2.1 ?_
      refine X_callV hK [] [.int (iI z218)] lk_X5_45 (c_size_100 _ _ _ _ _ S217 g219 bn nu (qS217 _ _ hs_bn) (by omega) ((hg219 bn 100 0 2 hs_bn (by decide)).trans ((hg2 bn 100 0 2 hs_bn (by decide)).trans enu)) AS217) (qS217 _ _ hs_bn) ⟨by decide, rfl⟩ kd45_6.2.2.2.2.2.1 rfl rfl (by simp [Value.category]) (by decide) (by omega) (by omega) (by decide) (fun r274 S276 g275 pr274 qr274 hg275 => ?_)
      obtain ⟨rfl, rfl, z277, rfl, lz277, uz277, k278⟩ := pr274
      refine X_st [.int (iI z277), .int (iI z218)] rfl ?_
      refine X_icmp_ge hK 78 (by omega) (by omega) kd45_6.2.2.2.2.2.2.1 (by decide) (fun c279 => ?_) (fun c279 => ?_)
      · exact hret _ _ _ _ _ _ kd45_9.1 ⟨(xNw2.tr xNw2.rf wS217 (by decide)), rfl, AS217, (xSi.nw hp1 wS217 (by decide)), (xQk.cg QS217 (by omega) (by omega)), (xQk.le (xQk.cg QS217 (by omega) (by omega))), ⟨sts273, q220, q221, eq220, eq221, by omega, by omega, (by have h9 := ts273; rw [show z218 = nu by omega] at h9; exact xTS.fin hp8 (by omega) h9)⟩⟩ (by omega) (by omega)
      · refine X_aloadn hK (i := 0) 1 kd45_6.2.2.2.2.2.2.2.1 rfl rfl ?_
        refine X_getK hK fl_X5_25_6 (qS217 _ _ hs_a0) ((hg219 a0 6 0 2 hs_a0 (by decide)).trans ((hg2 a0 6 0 2 hs_a0 (by decide)).trans ebn)) kd45_6.2.2.2.2.2.2.2.2.1 ?_
        refine X_iloadn hK (i := 3) 0 kd45_6.2.2.2.2.2.2.2.2.2.1 rfl rfl ?_
        refine X_callV hK [.int (iI z218)] [] lk_X5_119 (c_get_100 _ _ _ _ _ S217 g219 bn z218 nu (qS217 _ _ hs_bn) (by omega) (by omega) ((hg219 bn 100 0 2 hs_bn (by decide)).trans ((hg2 bn 100 0 2 hs_bn (by decide)).trans enu)) AS217 (by omega)) (qS217 _ _ hs_bn) ⟨by decide, rfl⟩ kd45_6.2.2.2.2.2.2.2.2.2.2.1 rfl rfl (by simp [Value.category]) (by decide) (by omega) (by omega) (by decide) (fun r280 S282 g281 pr280 qr280 hg281 => ?_)
        obtain ⟨rfl, rfl, b283, rfl, hs_b283, k284⟩ := pr280
        refine X_st [.ref b283] rfl ?_
        have wuhe285 := (xUW.m (xUW.m hp3 hg2 xLe.rf (by decide)) hg219 qS217 (by decide))
        have wbhe285 := (xBW.m (xBW.m hp4 hg2 xLe.rf (by decide)) hg219 qS217 (by decide))
        have he285 : b283 = U z218 := k284.trans (wuhe285.2.1 z218 (by omega) (by omega)).1
        have hbd286 := wuhe285.2.1 z218 (by omega) (by omega)
        obtain ⟨abd286, sbd286, ybd286, zbd286, fbd286, rbd286⟩ := hbd286
        unfold xUr at rbd286
        have kbd286 := wbhe285.2 (Y 0 z218) (by omega) (by omega)
        obtain ⟨kabd286, ksbd286, kfbd286, krbd286⟩ := kbd286
        unfold xBr at krbd286
        refine X_cast hK hs_b283 ⟨by decide, rfl⟩ m_38_23 kd45_6.2.2.2.2.2.2.2.2.2.2.2 ?_
        refine X_getK hK fl_X5_61_2 hs_b283 (show g219 b283 5 = .int (iI (Y 5 z218)) from by have h9 := (fbd286 5 (by decide) (by decide)).1; rw [he285]; exact h9) kd45_7.1 ?_
        refine X_istore hK (i := 4) [(4, .int (iI (Y 5 z218))), (3, .int (iI z218)), (0, .ref a0), (1, .int (iI x1)), (2, .ref a2)] kd45_7.2.1 (by decide) rfl ?_
        refine X_iload hK (i := 4) 0 kd45_7.2.2.1 rfl ?_
        refine X_iloadn hK (i := 1) 3 kd45_7.2.2.2.1 rfl rfl ?_
        refine X_icmp_ge hK 72 (by omega) (by omega) kd45_7.2.2.2.2.1 (by decide) (fun c287 => ?_) (fun c287 => ?_)
        · refine X_iinc hK (i := 3) (z := z218) (n := 1) 1 [(3, .int (iI (z218 + 1))), (4, .int (iI (Y 5 z218))), (0, .ref a0), (1, .int (iI x1)), (2, .ref a2)] kd45_8.2.2.2.2.2.2.2.2.2.2.1 rfl (by decide) rfl ?_
          refine X_goto hK 6 kd45_8.2.2.2.2.2.2.2.2.2.2.2 (by decide) ?_
          refine X_lv [(3, .int (iI (z218 + 1))), (0, .ref a0), (1, .int (iI x1)), (2, .ref a2)] [0, 2, 3, 4] rfl ?_
          exact ihP270  S217 qS217 (xNw2.tr xNw2.rf wS217 (by decide)) g219 (xM.tr xM.rf xLe.rf hg219 (by decide)) AS217 dcS217 dsS217 (xQk.cg QS217 (by omega) (by omega)) (z218 + 1) (by omega) (by omega) q220 (by omega) (by omega) eq220 q221 (by omega) (by omega) eq221 ⟨sts273, xTS.s1 hp8 (fun k9 r1 r2 => by have h9 := (hp3.2.1 k9 r1 r2).2.2.2.2.2; unfold xUr at h9; exact h9.2.2.2.2.1.1) ⟨by omega, by omega⟩ ts273 (by omega)⟩ (by omega) (by omega)
        · refine X_iloadn hK (i := 3) 1 kd45_7.2.2.2.2.2.1 rfl rfl ?_
          refine X_if_eq hK 64 (by omega) kd45_7.2.2.2.2.2.2.1 (by decide) (fun c288 => ?_) (fun c288 => ?_)
          · refine X_aloadn hK (i := 0) 2 kd45_8.2.2.2.2.2.1 rfl rfl ?_
            refine X_iload hK (i := 4) 0 kd45_8.2.2.2.2.2.2.1 rfl ?_
            refine X_aloadn hK (i := 2) 4 kd45_8.2.2.2.2.2.2.2.1 rfl rfl ?_
            refine X_iconst hK kd45_8.2.2.2.2.2.2.2.2.1 ?_
            refine X_know (qS217 _ _ hs_a0) (by decide) sl_6_5 (fun z289 ez289 lz289 uz289 => ?_)
            refine X_callVU hK [.int (iI (Y 5 z218)), .ref a2, .int (iI 0)] [] lk_X5_123 (m_cryDay0 _ _ _ _ _ S217 g219 a0 (Y 5 z218) a2 0 bn bo w3 ct ow nu nb sk hg wt ld wg fa z289 q220 q221 ln wk wn wf wb ws (c9 + dcS217) (s9 + dsS217) U B Y YB T WN HD (qS217 _ _ hs_a0) (by omega) (qS217 _ _ hs_a2) (by omega) ((hg219 a0 6 0 2 hs_a0 (by decide)).trans ((hg2 a0 6 0 2 hs_a0 (by decide)).trans ebn)) (qS217 _ _ hs_bn) ((hg219 a0 6 0 1 hs_a0 (by decide)).trans ((hg2 a0 6 0 1 hs_a0 (by decide)).trans ebo)) (qS217 _ _ hs_bo) ((hg219 a0 6 0 3 hs_a0 (by decide)).trans ((hg2 a0 6 0 3 hs_a0 (by decide)).trans ew3)) (qS217 _ _ hs_w3) ((hg219 a0 6 0 0 hs_a0 (by decide)).trans ((hg2 a0 6 0 0 hs_a0 (by decide)).trans ect)) (qS217 _ _ hs_ct) ((hg219 ct 4 0 5 hs_ct (by decide)).trans ((hg2 ct 4 0 5 hs_ct (by decide)).trans eow)) (qS217 _ _ hs_ow) (by omega) ((hg219 bn 100 0 2 hs_bn (by decide)).trans ((hg2 bn 100 0 2 hs_bn (by decide)).trans enu)) (by omega) ((hg219 bo 0 0 2 hs_bo (by decide)).trans ((hg2 bo 0 0 2 hs_bo (by decide)).trans enb)) ((hg219 ct 4 0 0 hs_ct (by decide)).trans ((hg2 ct 4 0 0 hs_ct (by decide)).trans esk)) (qS217 _ _ hs_sk) ((hg219 ct 4 0 1 hs_ct (by decide)).trans ((hg2 ct 4 0 1 hs_ct (by decide)).trans ehg)) (qS217 _ _ hs_hg) ((hg219 ct 4 0 2 hs_ct (by decide)).trans ((hg2 ct 4 0 2 hs_ct (by decide)).trans ewt)) (qS217 _ _ hs_wt) ((hg219 ct 4 0 3 hs_ct (by decide)).trans ((hg2 ct 4 0 3 hs_ct (by decide)).trans eld)) (qS217 _ _ hs_ld) ((hg219 ct 4 0 4 hs_ct (by decide)).trans ((hg2 ct 4 0 4 hs_ct (by decide)).trans ewg)) (qS217 _ _ hs_wg) ((hg219 a0 6 0 4 hs_a0 (by decide)).trans ((hg2 a0 6 0 4 hs_a0 (by decide)).trans efa)) (qS217 _ _ hs_fa) (by omega) ez289 (by omega) eq220 (by omega) eq221 (by omega) ((hg219 a2 11 0 1 hs_a2 (by decide)).trans ((hg2 a2 11 0 1 hs_a2 (by decide)).trans eln)) ((hg219 a2 11 0 3 hs_a2 (by decide)).trans ((hg2 a2 11 0 3 hs_a2 (by decide)).trans ewk)) (qS217 _ _ hs_wk) ((hg219 a2 11 0 4 hs_a2 (by decide)).trans ((hg2 a2 11 0 4 hs_a2 (by decide)).trans ewn)) (qS217 _ _ hs_wn) ((hg219 a2 11 0 5 hs_a2 (by decide)).trans ((hg2 a2 11 0 5 hs_a2 (by decide)).trans ewf)) (qS217 _ _ hs_wf) ((hg219 a2 11 0 6 hs_a2 (by decide)).trans ((hg2 a2 11 0 6 hs_a2 (by decide)).trans ewb)) (qS217 _ _ hs_wb) ((hg219 a2 11 0 7 hs_a2 (by decide)).trans ((hg2 a2 11 0 7 hs_a2 (by decide)).trans ews)) (qS217 _ _ hs_ws) AS217 (xSi.nw hp1 wS217 (by decide)) QS217 (xUW.m (xUW.m hp3 hg2 xLe.rf (by decide)) hg219 qS217 (by decide)) (xBW.m (xBW.m hp4 hg2 xLe.rf (by decide)) hg219 qS217 (by decide)) (by rw [(Eq.trans (xv_m hg219 hs_wk (by decide) (by decide)) (xv_m hg2 hs_wk (by decide) (by decide))), (Eq.trans (xv_m hg219 hs_wn (by decide) (by decide)) (xv_m hg2 hs_wn (by decide) (by decide))), (Eq.trans (xv_m hg219 hs_wf (by decide) (by decide)) (xv_m hg2 hs_wf (by decide) (by decide))), (Eq.trans (xv_m hg219 hs_wb (by decide) (by decide)) (xv_m hg2 hs_wb (by decide) (by decide))), (Eq.trans (xv_m hg219 hs_ws (by decide) (by decide)) (xv_m hg2 hs_ws (by decide) (by decide)))]; exact hp5) (xWW.m (xWW.m hp6 hg2 xLe.rf (by decide)) hg219 qS217 (by decide)) (xHW.m (xHW.m hp7 hg2 xLe.rf (by decide)) hg219 qS217 (by decide))) (qS217 _ _ hs_a0) ⟨by decide, rfl⟩ kd45_8.2.2.2.2.2.2.2.2.2.1 rfl rfl (by simp [Value.category]) (by decide) (by omega) (by omega) (by decide) (fun r290 S292 g291 dcr290 dsr290 pr290 qr290 hg291 => ?_)
            obtain ⟨wr290, rfl, k293, k294, k295, k296, k297⟩ := pr290
            refine X_st [] rfl ?_
            obtain ⟨scd298, hUcd298, hBcd298, sdcd298, f5cd298, f6cd298, f7cd298⟩ := k297
            rw [(Eq.trans (xv_m hg219 hs_ow (by decide) (by decide)) (xv_m hg2 hs_ow (by decide) (by decide))), (Eq.trans (xv_m hg219 hs_sk (by decide) (by decide)) (xv_m hg2 hs_sk (by decide) (by decide))), (Eq.trans (xv_m hg219 hs_wt (by decide) (by decide)) (xv_m hg2 hs_wt (by decide) (by decide))), (Eq.trans (xv_m hg219 hs_ld (by decide) (by decide)) (xv_m hg2 hs_ld (by decide) (by decide)))] at sdcd298
            rw [(Eq.trans (xv_m hg219 hs_ow (by decide) (by decide)) (xv_m hg2 hs_ow (by decide) (by decide))), (Eq.trans (xv_m hg219 hs_sk (by decide) (by decide)) (xv_m hg2 hs_sk (by decide) (by decide)))] at f6cd298 f7cd298
            obtain ⟨v299, hv299⟩ : ∃ v9 : Int, v9 = xwp (q220 + xzm (fun k9 => if Y 5 k9 = (Y 5 z218) then xwh9 2 T (xF9 YB Y (xv g ow) (xv g sk)) (Y 3) scd298 k9 else 0) nu.toNat) := ⟨_, rfl⟩
            have rv299 : -2147483648 ≤ v299 ∧ v299 ≤ 2147483647 := by rw [hv299]; exact xwp.r _
            rw [← hv299] at f6cd298
            obtain ⟨v300, hv300⟩ : ∃ v9 : Int, v9 = xwp (q221 + xzm (fun k9 => if Y 5 k9 = (Y 5 z218) then xwh9 1 T (xF9 YB Y (xv g ow) (xv g sk)) (Y 3) scd298 k9 else 0) nu.toNat) := ⟨_, rfl⟩
            have rv300 : -2147483648 ≤ v300 ∧ v300 ≤ 2147483647 := by rw [hv300]; exact xwp.r _
            rw [← hv300] at f7cd298
            refine X_iinc hK (i := 3) (z := z218) (n := 1) 1 [(3, .int (iI (z218 + 1))), (4, .int (iI (Y 5 z218))), (0, .ref a0), (1, .int (iI x1)), (2, .ref a2)] kd45_8.2.2.2.2.2.2.2.2.2.2.1 rfl (by decide) rfl ?_
            refine X_goto hK 6 kd45_8.2.2.2.2.2.2.2.2.2.2.2 (by decide) ?_
            refine X_lv [(3, .int (iI (z218 + 1))), (0, .ref a0), (1, .int (iI x1)), (2, .ref a2)] [0, 2, 3, 4] rfl ?_
            exact ihP270  S292 (xLe.tr qS217 qr290) (xNw2.tr (xNw2.tr xNw2.rf wS217 (by decide)) wr290 (by decide)) g291 (xM.tr (xM.tr xM.rf xLe.rf hg219 (by decide)) qS217 hg291 (by decide)) k293 (dcS217 + dcr290) (dsS217 + dsr290) (xQk.cg k295 (by omega) (by omega)) (z218 + 1) (by omega) (by omega) v299 (by omega) (by omega) f6cd298 v300 (by omega) (by omega) f7cd298 ⟨xmg9 Y (Y 5 z218) scd298 sts273, xTS.s2 hp8 (fun k9 r1 r2 => by have h9 := (hp3.2.1 k9 r1 r2).2.2.2.2.2; unfold xUr at h9; exact h9.2.2.2.2.1.1) ⟨by omega, by omega⟩ ts273 (by omega) (by omega) sdcd298 hv299 hv300⟩ (by omega) (by omega)
          · refine X_aloadn hK (i := 0) 2 kd45_7.2.2.2.2.2.2.2.1 rfl rfl ?_
            refine X_getK hK fl_X5_25_6 (qS217 _ _ hs_a0) ((hg219 a0 6 0 2 hs_a0 (by decide)).trans ((hg2 a0 6 0 2 hs_a0 (by decide)).trans ebn)) kd45_7.2.2.2.2.2.2.2.2.1 ?_
            refine X_iloadn hK (i := 3) 1 kd45_7.2.2.2.2.2.2.2.2.2.1 rfl rfl ?_
            refine X_iconst hK kd45_7.2.2.2.2.2.2.2.2.2.2.1 ?_
            refine X_isub hK kd45_7.2.2.2.2.2.2.2.2.2.2.2 ?_
            refine X_callV hK [.int (iI (z218 - 1))] [] lk_X5_119 (c_get_100 _ _ _ _ _ S217 g219 bn (z218 - 1) nu (qS217 _ _ hs_bn) (by omega) (by omega) ((hg219 bn 100 0 2 hs_bn (by decide)).trans ((hg2 bn 100 0 2 hs_bn (by decide)).trans enu)) AS217 (by omega)) (qS217 _ _ hs_bn) ⟨by decide, rfl⟩ kd45_8.1 rfl rfl (by simp [Value.category]) (by decide) (by omega) (by omega) (by decide) (fun r301 S303 g302 pr301 qr301 hg302 => ?_)
            obtain ⟨rfl, rfl, b304, rfl, hs_b304, k305⟩ := pr301
            refine X_st [.ref b304] rfl ?_
            have wuhe306 := (xUW.m (xUW.m hp3 hg2 xLe.rf (by decide)) hg219 qS217 (by decide))
            have wbhe306 := (xBW.m (xBW.m hp4 hg2 xLe.rf (by decide)) hg219 qS217 (by decide))
            have he306 : b304 = U (z218 - 1) := k305.trans (wuhe306.2.1 (z218 - 1) (by omega) (by omega)).1
            have hbd307 := wuhe306.2.1 (z218 - 1) (by omega) (by omega)
            obtain ⟨abd307, sbd307, ybd307, zbd307, fbd307, rbd307⟩ := hbd307
            unfold xUr at rbd307
            have kbd307 := wbhe306.2 (Y 0 (z218 - 1)) (by omega) (by omega)
            obtain ⟨kabd307, ksbd307, kfbd307, krbd307⟩ := kbd307
            unfold xBr at krbd307
            refine X_cast hK hs_b304 ⟨by decide, rfl⟩ m_38_23 kd45_8.2.1 ?_
            refine X_getK hK fl_X5_61_2 hs_b304 (show g219 b304 5 = .int (iI (Y 5 (z218 - 1))) from by have h9 := (fbd307 5 (by decide) (by decide)).1; rw [he306]; exact h9) kd45_8.2.2.1 ?_
            refine X_iload hK (i := 4) 0 kd45_8.2.2.2.1 rfl ?_
            refine X_icmp_eq hK 72 (by omega) (by omega) kd45_8.2.2.2.2.1 (by decide) (fun c308 => ?_) (fun c308 => ?_)
            · refine X_iinc hK (i := 3) (z := z218) (n := 1) 1 [(3, .int (iI (z218 + 1))), (4, .int (iI (Y 5 z218))), (0, .ref a0), (1, .int (iI x1)), (2, .ref a2)] kd45_8.2.2.2.2.2.2.2.2.2.2.1 rfl (by decide) rfl ?_
              refine X_goto hK 6 kd45_8.2.2.2.2.2.2.2.2.2.2.2 (by decide) ?_
              refine X_lv [(3, .int (iI (z218 + 1))), (0, .ref a0), (1, .int (iI x1)), (2, .ref a2)] [0, 2, 3, 4] rfl ?_
              exact ihP270  S217 qS217 (xNw2.tr xNw2.rf wS217 (by decide)) g219 (xM.tr xM.rf xLe.rf hg219 (by decide)) AS217 dcS217 dsS217 (xQk.cg QS217 (by omega) (by omega)) (z218 + 1) (by omega) (by omega) q220 (by omega) (by omega) eq220 q221 (by omega) (by omega) eq221 ⟨sts273, xTS.s1 hp8 (fun k9 r1 r2 => by have h9 := (hp3.2.1 k9 r1 r2).2.2.2.2.2; unfold xUr at h9; exact h9.2.2.2.2.1.1) ⟨by omega, by omega⟩ ts273 (by omega)⟩ (by omega) (by omega)
            · refine X_aloadn hK (i := 0) 2 kd45_8.2.2.2.2.2.1 rfl rfl ?_
              refine X_iload hK (i := 4) 0 kd45_8.2.2.2.2.2.2.1 rfl ?_
              refine X_aloadn hK (i := 2) 4 kd45_8.2.2.2.2.2.2.2.1 rfl rfl ?_
              refine X_iconst hK kd45_8.2.2.2.2.2.2.2.2.1 ?_
              refine X_know (qS217 _ _ hs_a0) (by decide) sl_6_5 (fun z309 ez309 lz309 uz309 => ?_)
              refine X_callVU hK [.int (iI (Y 5 z218)), .ref a2, .int (iI 0)] [] lk_X5_123 (m_cryDay0 _ _ _ _ _ S217 g219 a0 (Y 5 z218) a2 0 bn bo w3 ct ow nu nb sk hg wt ld wg fa z309 q220 q221 ln wk wn wf wb ws (c9 + dcS217) (s9 + dsS217) U B Y YB T WN HD (qS217 _ _ hs_a0) (by omega) (qS217 _ _ hs_a2) (by omega) ((hg219 a0 6 0 2 hs_a0 (by decide)).trans ((hg2 a0 6 0 2 hs_a0 (by decide)).trans ebn)) (qS217 _ _ hs_bn) ((hg219 a0 6 0 1 hs_a0 (by decide)).trans ((hg2 a0 6 0 1 hs_a0 (by decide)).trans ebo)) (qS217 _ _ hs_bo) ((hg219 a0 6 0 3 hs_a0 (by decide)).trans ((hg2 a0 6 0 3 hs_a0 (by decide)).trans ew3)) (qS217 _ _ hs_w3) ((hg219 a0 6 0 0 hs_a0 (by decide)).trans ((hg2 a0 6 0 0 hs_a0 (by decide)).trans ect)) (qS217 _ _ hs_ct) ((hg219 ct 4 0 5 hs_ct (by decide)).trans ((hg2 ct 4 0 5 hs_ct (by decide)).trans eow)) (qS217 _ _ hs_ow) (by omega) ((hg219 bn 100 0 2 hs_bn (by decide)).trans ((hg2 bn 100 0 2 hs_bn (by decide)).trans enu)) (by omega) ((hg219 bo 0 0 2 hs_bo (by decide)).trans ((hg2 bo 0 0 2 hs_bo (by decide)).trans enb)) ((hg219 ct 4 0 0 hs_ct (by decide)).trans ((hg2 ct 4 0 0 hs_ct (by decide)).trans esk)) (qS217 _ _ hs_sk) ((hg219 ct 4 0 1 hs_ct (by decide)).trans ((hg2 ct 4 0 1 hs_ct (by decide)).trans ehg)) (qS217 _ _ hs_hg) ((hg219 ct 4 0 2 hs_ct (by decide)).trans ((hg2 ct 4 0 2 hs_ct (by decide)).trans ewt)) (qS217 _ _ hs_wt) ((hg219 ct 4 0 3 hs_ct (by decide)).trans ((hg2 ct 4 0 3 hs_ct (by decide)).trans eld)) (qS217 _ _ hs_ld) ((hg219 ct 4 0 4 hs_ct (by decide)).trans ((hg2 ct 4 0 4 hs_ct (by decide)).trans ewg)) (qS217 _ _ hs_wg) ((hg219 a0 6 0 4 hs_a0 (by decide)).trans ((hg2 a0 6 0 4 hs_a0 (by decide)).trans efa)) (qS217 _ _ hs_fa) (by omega) ez309 (by omega) eq220 (by omega) eq221 (by omega) ((hg219 a2 11 0 1 hs_a2 (by decide)).trans ((hg2 a2 11 0 1 hs_a2 (by decide)).trans eln)) ((hg219 a2 11 0 3 hs_a2 (by decide)).trans ((hg2 a2 11 0 3 hs_a2 (by decide)).trans ewk)) (qS217 _ _ hs_wk) ((hg219 a2 11 0 4 hs_a2 (by decide)).trans ((hg2 a2 11 0 4 hs_a2 (by decide)).trans ewn)) (qS217 _ _ hs_wn) ((hg219 a2 11 0 5 hs_a2 (by decide)).trans ((hg2 a2 11 0 5 hs_a2 (by decide)).trans ewf)) (qS217 _ _ hs_wf) ((hg219 a2 11 0 6 hs_a2 (by decide)).trans ((hg2 a2 11 0 6 hs_a2 (by decide)).trans ewb)) (qS217 _ _ hs_wb) ((hg219 a2 11 0 7 hs_a2 (by decide)).trans ((hg2 a2 11 0 7 hs_a2 (by decide)).trans ews)) (qS217 _ _ hs_ws) AS217 (xSi.nw hp1 wS217 (by decide)) QS217 (xUW.m (xUW.m hp3 hg2 xLe.rf (by decide)) hg219 qS217 (by decide)) (xBW.m (xBW.m hp4 hg2 xLe.rf (by decide)) hg219 qS217 (by decide)) (by rw [(Eq.trans (xv_m hg219 hs_wk (by decide) (by decide)) (xv_m hg2 hs_wk (by decide) (by decide))), (Eq.trans (xv_m hg219 hs_wn (by decide) (by decide)) (xv_m hg2 hs_wn (by decide) (by decide))), (Eq.trans (xv_m hg219 hs_wf (by decide) (by decide)) (xv_m hg2 hs_wf (by decide) (by decide))), (Eq.trans (xv_m hg219 hs_wb (by decide) (by decide)) (xv_m hg2 hs_wb (by decide) (by decide))), (Eq.trans (xv_m hg219 hs_ws (by decide) (by decide)) (xv_m hg2 hs_ws (by decide) (by decide)))]; exact hp5) (xWW.m (xWW.m hp6 hg2 xLe.rf (by decide)) hg219 qS217 (by decide)) (xHW.m (xHW.m hp7 hg2 xLe.rf (by decide)) hg219 qS217 (by decide))) (qS217 _ _ hs_a0) ⟨by decide, rfl⟩ kd45_8.2.2.2.2.2.2.2.2.2.1 rfl rfl (by simp [Value.category]) (by decide) (by omega) (by omega) (by decide) (fun r310 S312 g311 dcr310 dsr310 pr310 qr310 hg311 => ?_)
              obtain ⟨wr310, rfl, k313, k314, k315, k316, k317⟩ := pr310
              refine X_st [] rfl ?_
              obtain ⟨scd318, hUcd318, hBcd318, sdcd318, f5cd318, f6cd318, f7cd318⟩ := k317
              rw [(Eq.trans (xv_m hg219 hs_ow (by decide) (by decide)) (xv_m hg2 hs_ow (by decide) (by decide))), (Eq.trans (xv_m hg219 hs_sk (by decide) (by decide)) (xv_m hg2 hs_sk (by decide) (by decide))), (Eq.trans (xv_m hg219 hs_wt (by decide) (by decide)) (xv_m hg2 hs_wt (by decide) (by decide))), (Eq.trans (xv_m hg219 hs_ld (by decide) (by decide)) (xv_m hg2 hs_ld (by decide) (by decide)))] at sdcd318
              rw [(Eq.trans (xv_m hg219 hs_ow (by decide) (by decide)) (xv_m hg2 hs_ow (by decide) (by decide))), (Eq.trans (xv_m hg219 hs_sk (by decide) (by decide)) (xv_m hg2 hs_sk (by decide) (by decide)))] at f6cd318 f7cd318
              obtain ⟨v319, hv319⟩ : ∃ v9 : Int, v9 = xwp (q220 + xzm (fun k9 => if Y 5 k9 = (Y 5 z218) then xwh9 2 T (xF9 YB Y (xv g ow) (xv g sk)) (Y 3) scd318 k9 else 0) nu.toNat) := ⟨_, rfl⟩
              have rv319 : -2147483648 ≤ v319 ∧ v319 ≤ 2147483647 := by rw [hv319]; exact xwp.r _
              rw [← hv319] at f6cd318
              obtain ⟨v320, hv320⟩ : ∃ v9 : Int, v9 = xwp (q221 + xzm (fun k9 => if Y 5 k9 = (Y 5 z218) then xwh9 1 T (xF9 YB Y (xv g ow) (xv g sk)) (Y 3) scd318 k9 else 0) nu.toNat) := ⟨_, rfl⟩
              have rv320 : -2147483648 ≤ v320 ∧ v320 ≤ 2147483647 := by rw [hv320]; exact xwp.r _
              rw [← hv320] at f7cd318
              refine X_iinc hK (i := 3) (z := z218) (n := 1) 1 [(3, .int (iI (z218 + 1))), (4, .int (iI (Y 5 z218))), (0, .ref a0), (1, .int (iI x1)), (2, .ref a2)] kd45_8.2.2.2.2.2.2.2.2.2.2.1 rfl (by decide) rfl ?_
              refine X_goto hK 6 kd45_8.2.2.2.2.2.2.2.2.2.2.2 (by decide) ?_
              refine X_lv [(3, .int (iI (z218 + 1))), (0, .ref a0), (1, .int (iI x1)), (2, .ref a2)] [0, 2, 3, 4] rfl ?_
              exact ihP270  S312 (xLe.tr qS217 qr310) (xNw2.tr (xNw2.tr xNw2.rf wS217 (by decide)) wr310 (by decide)) g311 (xM.tr (xM.tr xM.rf xLe.rf hg219 (by decide)) qS217 hg311 (by decide)) k313 (dcS217 + dcr310) (dsS217 + dsr310) (xQk.cg k315 (by omega) (by omega)) (z218 + 1) (by omega) (by omega) v319 (by omega) (by omega) f6cd318 v320 (by omega) (by omega) f7cd318 ⟨xmg9 Y (Y 5 z218) scd318 sts273, xTS.s2 hp8 (fun k9 r1 r2 => by have h9 := (hp3.2.1 k9 r1 r2).2.2.2.2.2; unfold xUr at h9; exact h9.2.2.2.2.1.1) ⟨by omega, by omega⟩ ts273 (by omega) (by omega) sdcd318 hv319 hv320⟩ (by omega) (by omega)
  exact P270 ((300 - 0 : Int).toNat + 1) S xLe.rf xNw2.rf g2 xM.rf (xLs_mod hp0 hg2 (by decide)) 0 0 (xQk.cg (xQk_mod hp2 hs_w3 hg2 (by decide)) (by omega) (by omega)) 0 (by omega) (by omega) 0 (by omega) (by omega) k5 0 (by omega) (by omega) k6 ⟨fun _ => 0, xTS.z (by show (if (0 : Int) = 0 then (0 : Int) else _) ≤ 0; rw [if_pos rfl]; exact Int.le_refl _) (fun k9 r1 r2 => by have h9 := (hp3.2.1 k9 r1 (by omega)).2.2.2.2.2; unfold xUr at h9; exact h9.2.2.2.2.1.1)⟩ (by omega) (by omega)

set_option maxHeartbeats 4000000 in
set_option maxRecDepth 100000 in
theorem m_tried2 (l : Launch) (D : va_G) (kA : Nat → ClassId) (b0 : Nat) (t0 : Nat → Nat) (S : xT) (g : xG) (a0 : Nat) (w0 : Nat) (n0 : Int) (y0 : Nat) (td : Int) (te : Int) (m0 : Nat) (bn : Nat) (bo : Nat) (w3 : Nat) (ct : Nat) (ow : Nat) (sk : Nat) (fa : Nat) (nu : Int) (nb : Int) (tx : Nat) (tn : Int) (et : Nat) (hg : Nat) (wt : Nat) (ld : Nat) (wg : Nat) (U : Int → Nat) (B : Int → Nat) (Y : Nat → Int → Int) (YB : Nat → Int → Int) (Xt : Int → Nat) (TT : Int → List xL3) (fr : Int → Int) (WN : Int → Int → Int) (HD : Int → Int → Int) (hs_a0 : S a0 = some (12, 0)) (ew0 : g a0 0 = .ref w0) (hs_w0 : S w0 = some (10, 0)) (hn0 : 0 ≤ n0 ∧ n0 ≤ 420) (en0 : g w0 1 = .int (iI n0)) (ey0 : g w0 0 = .ref y0) (hs_y0 : S y0 = some (13500, 420)) (htd : 0 ≤ td ∧ td ≤ 400) (etd : g a0 12 = .int (iI td)) (hte : (-2147483648) ≤ te ∧ te ≤ 2147483647) (ete : g a0 15 = .int (iI te)) (em0 : g a0 1 = .ref m0) (hs_m0 : S m0 = some (6, 0)) (ebn : g m0 2 = .ref bn) (hs_bn : S bn = some (100, 0)) (ebo : g m0 1 = .ref bo) (hs_bo : S bo = some (0, 0)) (ew3 : g m0 3 = .ref w3) (hs_w3 : S w3 = some (200, 0)) (ect : g m0 0 = .ref ct) (hs_ct : S ct = some (4, 0)) (eow : g ct 5 = .ref ow) (hs_ow : S ow = some (11400, 10)) (esk : g ct 0 = .ref sk) (hs_sk : S sk = some (10700, 400)) (efa : g m0 4 = .ref fa) (hs_fa : S fa = some (12000, 12)) (hnu : 0 ≤ nu ∧ nu ≤ 200) (enu : g bn 2 = .int (iI nu)) (hnb : 0 ≤ nb ∧ nb ≤ 40) (enb : g bo 2 = .int (iI nb)) (etx : g a0 4 = .ref tx) (hs_tx : S tx = some (300, 0)) (htn : 0 ≤ tn ∧ tn ≤ 10) (etn : g tx 2 = .int (iI tn)) (eet : g a0 5 = .ref et) (hs_et : S et = some (11, 0)) (ehg : g ct 1 = .ref hg) (hs_hg : S hg = some (10904, 4)) (ewt : g ct 2 = .ref wt) (hs_wt : S wt = some (11000, 4)) (eld : g ct 3 = .ref ld) (hs_ld : S ld = some (11100, 6)) (ewg : g ct 4 = .ref wg) (hs_wg : S wg = some (11304, 10)) (hp0 : xLs S g) (hp1 : xSi S t0) (hp2 : xUW S g bn nu nb U B Y) (hp3 : xBW S g bo nb B YB) (hp4 : xXW S g tx tn Xt TT fr) (hp5 : xET S g et) (hp6 : xDS S g a0 Xt tn et) (hp7 : xWW S g wg WN) (hp8 : xHW S g hg HD) (hp9 : xMn nu td Y) : xMu l yX11_tried cX11_tried 1 (some .int) 36 19 1680 838 D kA b0 t0 [(12900, 0), (13000, 0), (8, 2), (8, 3), (8, 4), (8, 5), (8, 6), (11, 1), (11, 2), (13600, 0), (13700, 0), (13800, 0), (13900, 0), (14000, 0), (12, 13), (10, 1), (6, 5), (6, 6), (6, 7), (200, 0), (200, 2), (10403, 0), (200, 1), (12000, 0), (12, 15)] [.ref a0] S g (fun (r : Option Value) (S1 : xT) (g1 : xG) (dc ds : Nat) => xNw2 S S1 [10403] ∧ ∃ z : Int, r = some (.int (iI z)) ∧ (-2147483648) ≤ z ∧ z ≤ 2147483647 ∧ (xLs S1 g1) ∧ (xSi S1 t0) ∧ (dc ≤ 9 ∧ ds ≤ 718) ∧ (g1 w0 1 = .int (iI (0))) ∧ (∃ F1 te1 : Int, g1 a0 13 = .int (iI F1) ∧ g1 a0 15 = .int (iI te1) ∧ (-2147483648 ≤ F1 ∧ F1 ≤ 2147483647) ∧ (-2147483648 ≤ te1 ∧ te1 ≤ 2147483647) ∧ ∃ (m q : Int) (T : List xL3), xTXg (xv g y0) n0 F1 m q T ∧ xUW S1 g1 bn nu nb U B Y ∧ xBW S1 g1 bo nb B YB ∧ xXW S1 g1 tx tn Xt TT fr ∧ xET S1 g1 et ∧ xDS S1 g1 a0 Xt tn et ∧ (F1 ≠ 0 → z = -1000000000 - q ∧ te1 = te) ∧ (F1 = 0 → ∃ s9 : Int → Int, xTS nu.toNat Y (xKY Y YB (xv g ow)) (fun k9 => xts9 T ((xF9 YB Y (xv g ow) (xv g sk)) k9) 4) (fun d9 c9 p9 => xas (WN c9 p9) (xv g wt (xv g sk d9)) (xv g ld (HD p9 d9))) T (xF9 YB Y (xv g ow) (xv g sk)) td td s9 z te1))) := by
  refine xEnterUI (by decide) (by simp [lg_sl, Value.category]) [(0, .ref a0)] rfl ?_
  intro K E hK hret hS0 _ hini ht
  subst ht
  refine X_aloadn hK (i := 0) 0 kd45_2.2.2.2.2.2.1 rfl rfl ?_
  refine X_getr hK 8 0 fl_X11_52_12 hs_a0 sl_12_6 kd45_2.2.2.2.2.2.2.1 (fun b1 eb1 hs_b1 => ?_)
  refine X_aloadn hK (i := 0) 0 kd45_2.2.2.2.2.2.2.2.1 rfl rfl ?_
  refine X_getK hK fl_X11_10_12 hs_a0 ew0 kd45_2.2.2.2.2.2.2.2.2.1 ?_
  refine X_aloadn hK (i := 0) 0 kd45_2.2.2.2.2.2.2.2.2.2.1 rfl rfl ?_
  refine X_getr hK 11 0 fl_X11_56_12 hs_a0 sl_12_7 kd45_2.2.2.2.2.2.2.2.2.2.2.1 (fun b2 eb2 hs_b2 => ?_)
  refine X_knowr 12900 301 hs_b1 (by decide) sl_8_0 (fun b3 eb3 hs_b3 => ?_)
  refine X_knowr 13000 301 hs_b1 (by decide) sl_8_1 (fun b4 eb4 hs_b4 => ?_)
  refine X_knowr 13600 16 hs_b2 (by decide) sl_11_3 (fun b5 eb5 hs_b5 => ?_)
  refine X_knowr 13700 16 hs_b2 (by decide) sl_11_4 (fun b6 eb6 hs_b6 => ?_)
  refine X_knowr 13800 16 hs_b2 (by decide) sl_11_5 (fun b7 eb7 hs_b7 => ?_)
  refine X_knowr 13900 16 hs_b2 (by decide) sl_11_6 (fun b8 eb8 hs_b8 => ?_)
  refine X_knowr 14000 100 hs_b2 (by decide) sl_11_7 (fun b9 eb9 hs_b9 => ?_)
  refine X_callV hK [.ref w0, .ref b2] [] lk_X11_193 (m_read _ _ _ _ _ S g b1 w0 b2 b3 b4 y0 n0 b5 b6 b7 b8 b9 hs_b1 hs_w0 hs_b2 eb3 hs_b3 eb4 hs_b4 ey0 hs_y0 (by omega) en0 eb5 hs_b5 eb6 hs_b6 eb7 hs_b7 eb8 hs_b8 eb9 hs_b9) hs_b1 ⟨by decide, rfl⟩ kd45_2.2.2.2.2.2.2.2.2.2.2.2 rfl rfl (by simp [Value.category]) (by decide) (by omega) (by omega) (by decide) (fun r10 S12 g11 pr10 qr10 hg11 => ?_)
  obtain ⟨rfl, rfl, k13⟩ := pr10
  refine X_st [] rfl ?_
  obtain ⟨Ft14, mt14, qt14, eFt14, lFt14, uFt14, emt14, lmt14, umt14, eqt14, lqt14, uqt14, Tt14, kt14, ct14, f0t14, f1t14, f2t14, f3t14, f4t14, f5t14⟩ := k13
  have xsR := xDS.at (xDS.m hp6 hg11 xLe.rf (by decide)) ((hg11 a0 12 0 7 hs_a0 (by decide)).trans eb2) ((hg11 b2 11 0 3 hs_b2 (by decide)).trans eb5) ((hg11 b2 11 0 4 hs_b2 (by decide)).trans eb6) ((hg11 b2 11 0 5 hs_b2 (by decide)).trans eb7) ((hg11 b2 11 0 6 hs_b2 (by decide)).trans eb8) ((hg11 b2 11 0 7 hs_b2 (by decide)).trans eb9)
  have xwR : xXW S g11 tx tn Xt TT fr := xXW.kp hp4 xsR hg11 (by decide) f5t14 f0t14 f1t14 f2t14 f3t14 f4t14
  have etR : xET S g11 et := xET.kp hp5 xsR f5t14 f0t14 f1t14 f2t14 f3t14 f4t14
  refine X_aloadn hK (i := 0) 0 kd45_3.1 rfl rfl ?_
  refine X_aloadn hK (i := 0) 0 kd45_3.2.1 rfl rfl ?_
  refine X_getK hK fl_X11_52_12 hs_a0 ((hg11 a0 12 0 6 hs_a0 (by decide)).trans eb1) kd45_3.2.2.1 ?_
  refine X_getK hK fl_X11_197_8 hs_b1 eFt14 kd45_3.2.2.2.1 ?_
  refine X_puti hK fl_X11_87_12 hs_a0 (by decide) sl_12_13 (by omega) (by omega) kd45_3.2.2.2.2.1 (fun g15 hg15 => ?_)
  refine X_aloadn hK (i := 0) 0 kd45_3.2.2.2.2.2.1 rfl rfl ?_
  refine X_getK hK fl_X11_10_12 hs_a0 ((xs_k hg15 (by decide)).trans ((hg11 a0 12 0 0 hs_a0 (by decide)).trans ew0)) kd45_3.2.2.2.2.2.2.1 ?_
  refine X_iconst hK kd45_3.2.2.2.2.2.2.2.1 ?_
  refine X_puti hK fl_X11_102_10 hs_w0 (by decide) sl_10_1 (by omega) (by omega) kd45_3.2.2.2.2.2.2.2.2.1 (fun g16 hg16 => ?_)
  refine X_aloadn hK (i := 0) 0 kd45_3.2.2.2.2.2.2.2.2.2.1 rfl rfl ?_
  refine X_getK hK fl_X11_87_12 hs_a0 ((xs_k hg16 (by decide)).trans (xs_s hg15)) kd45_3.2.2.2.2.2.2.2.2.2.2.1 ?_
  refine X_if_eq hK 53 (by omega) kd45_3.2.2.2.2.2.2.2.2.2.2.2 (by decide) (fun c17 => ?_) (fun c17 => ?_)
  · refine X_aloadn hK (i := 0) 0 kd45_4.2.2.2.2.2.2.1 rfl rfl ?_
    refine X_getK hK fl_X11_19_12 hs_a0 ((xs_a hg16 (xne hs_a0 hs_w0 (by decide))).trans ((xs_k hg15 (by decide)).trans ((hg11 a0 12 0 1 hs_a0 (by decide)).trans em0))) kd45_4.2.2.2.2.2.2.2.1 ?_
    refine X_aloadn hK (i := 0) 0 kd45_4.2.2.2.2.2.2.2.2.1 rfl rfl ?_
    refine X_getK hK fl_X11_83_12 hs_a0 ((xs_k hg16 (by decide)).trans ((xs_k hg15 (by decide)).trans ((hg11 a0 12 0 12 hs_a0 (by decide)).trans etd))) kd45_4.2.2.2.2.2.2.2.2.2.1 ?_
    refine X_aloadn hK (i := 0) 0 kd45_4.2.2.2.2.2.2.2.2.2.2.1 rfl rfl ?_
    refine X_getK hK fl_X11_56_12 hs_a0 ((xs_k hg16 (by decide)).trans ((xs_k hg15 (by decide)).trans ((hg11 a0 12 0 7 hs_a0 (by decide)).trans eb2))) kd45_4.2.2.2.2.2.2.2.2.2.2.2 ?_
    refine X_callVU hK [.int (iI td), .ref b2] [] lk_X11_308 (m_cryClosed2 _ _ _ _ _ S g16 m0 td b2 bn bo w3 ct ow nu nb sk hg wt ld wg fa mt14 b5 b6 b7 b8 b9 0 0 U B Y YB Tt14 WN HD hs_m0 (by omega) hs_b2 ((xs_k hg16 (by decide)).trans ((xs_k hg15 (by decide)).trans ((hg11 m0 6 0 2 hs_m0 (by decide)).trans ebn))) hs_bn ((xs_a hg16 (xne hs_m0 hs_w0 (by decide))).trans ((xs_k hg15 (by decide)).trans ((hg11 m0 6 0 1 hs_m0 (by decide)).trans ebo))) hs_bo ((xs_k hg16 (by decide)).trans ((xs_k hg15 (by decide)).trans ((hg11 m0 6 0 3 hs_m0 (by decide)).trans ew3))) hs_w3 ((xs_k hg16 (by decide)).trans ((xs_k hg15 (by decide)).trans ((hg11 m0 6 0 0 hs_m0 (by decide)).trans ect))) hs_ct ((xs_k hg16 (by decide)).trans ((xs_k hg15 (by decide)).trans ((hg11 ct 4 0 5 hs_ct (by decide)).trans eow))) hs_ow (by omega) ((xs_k hg16 (by decide)).trans ((xs_k hg15 (by decide)).trans ((hg11 bn 100 0 2 hs_bn (by decide)).trans enu))) (by omega) ((xs_k hg16 (by decide)).trans ((xs_k hg15 (by decide)).trans ((hg11 bo 0 0 2 hs_bo (by decide)).trans enb))) ((xs_k hg16 (by decide)).trans ((xs_k hg15 (by decide)).trans ((hg11 ct 4 0 0 hs_ct (by decide)).trans esk))) hs_sk ((xs_a hg16 (xne hs_ct hs_w0 (by decide))).trans ((xs_k hg15 (by decide)).trans ((hg11 ct 4 0 1 hs_ct (by decide)).trans ehg))) hs_hg ((xs_k hg16 (by decide)).trans ((xs_k hg15 (by decide)).trans ((hg11 ct 4 0 2 hs_ct (by decide)).trans ewt))) hs_wt ((xs_k hg16 (by decide)).trans ((xs_k hg15 (by decide)).trans ((hg11 ct 4 0 3 hs_ct (by decide)).trans eld))) hs_ld ((xs_k hg16 (by decide)).trans ((xs_k hg15 (by decide)).trans ((hg11 ct 4 0 4 hs_ct (by decide)).trans ewg))) hs_wg ((xs_k hg16 (by decide)).trans ((xs_k hg15 (by decide)).trans ((hg11 m0 6 0 4 hs_m0 (by decide)).trans efa))) hs_fa (by omega) ((xs_a hg16 (xne hs_b2 hs_w0 (by decide))).trans ((xs_k hg15 (by decide)).trans emt14)) ((xs_k hg16 (by decide)).trans ((xs_k hg15 (by decide)).trans ((hg11 b2 11 0 3 hs_b2 (by decide)).trans eb5))) hs_b5 ((xs_k hg16 (by decide)).trans ((xs_k hg15 (by decide)).trans ((hg11 b2 11 0 4 hs_b2 (by decide)).trans eb6))) hs_b6 ((xs_k hg16 (by decide)).trans ((xs_k hg15 (by decide)).trans ((hg11 b2 11 0 5 hs_b2 (by decide)).trans eb7))) hs_b7 ((xs_k hg16 (by decide)).trans ((xs_k hg15 (by decide)).trans ((hg11 b2 11 0 6 hs_b2 (by decide)).trans eb8))) hs_b8 ((xs_k hg16 (by decide)).trans ((xs_k hg15 (by decide)).trans ((hg11 b2 11 0 7 hs_b2 (by decide)).trans eb9))) hs_b9 (xLs_up (xLs_up (xLs_mod hp0 hg11 (by decide)) hg15 hs_a0 (by decide)) hg16 hs_w0 (by decide)) hp1 (xQk_0 (xLs_up (xLs_up (xLs_mod hp0 hg11 (by decide)) hg15 hs_a0 (by decide)) hg16 hs_w0 (by decide)) hs_w3) (xUW.m (xUW.m (xUW.m hp2 hg11 xLe.rf (by decide)) (xM_up (L := [(12, 13)]) xM.rf hg15 hs_a0 (by decide) (by decide)) xLe.rf (by decide)) (xM_up (L := [(10, 1)]) xM.rf hg16 hs_w0 (by decide) (by decide)) xLe.rf (by decide)) (xBW.m (xBW.m (xBW.m hp3 hg11 xLe.rf (by decide)) (xM_up (L := [(12, 13)]) xM.rf hg15 hs_a0 (by decide) (by decide)) xLe.rf (by decide)) (xM_up (L := [(10, 1)]) xM.rf hg16 hs_w0 (by decide) (by decide)) xLe.rf (by decide)) (by rw [(Eq.trans (xv_a hg16 (xne hs_b5 hs_w0 (by decide))) (xv_a hg15 (xne hs_b5 hs_a0 (by decide)))), (Eq.trans (xv_a hg16 (xne hs_b6 hs_w0 (by decide))) (xv_a hg15 (xne hs_b6 hs_a0 (by decide)))), (Eq.trans (xv_a hg16 (xne hs_b7 hs_w0 (by decide))) (xv_a hg15 (xne hs_b7 hs_a0 (by decide)))), (Eq.trans (xv_a hg16 (xne hs_b8 hs_w0 (by decide))) (xv_a hg15 (xne hs_b8 hs_a0 (by decide)))), (Eq.trans (xv_a hg16 (xne hs_b9 hs_w0 (by decide))) (xv_a hg15 (xne hs_b9 hs_a0 (by decide))))]; exact (ct14 (by omega))) (xWW.m (xWW.m (xWW.m hp7 hg11 xLe.rf (by decide)) (xM_up (L := [(12, 13)]) xM.rf hg15 hs_a0 (by decide) (by decide)) xLe.rf (by decide)) (xM_up (L := [(10, 1)]) xM.rf hg16 hs_w0 (by decide) (by decide)) xLe.rf (by decide)) (xHW.m (xHW.m (xHW.m hp8 hg11 xLe.rf (by decide)) (xM_up (L := [(12, 13)]) xM.rf hg15 hs_a0 (by decide) (by decide)) xLe.rf (by decide)) (xM_up (L := [(10, 1)]) xM.rf hg16 hs_w0 (by decide) (by decide)) xLe.rf (by decide)) hp9) hs_m0 ⟨by decide, rfl⟩ kd45_5.1 rfl rfl (by simp [Value.category]) (by decide) (by omega) (by omega) (by decide) (fun r18 S20 g19 dcr18 dsr18 pr18 qr18 hg19 => ?_)
    obtain ⟨wr18, rfl, k21, k22, k23, k24, k25⟩ := pr18
    refine X_st [] rfl ?_
    obtain ⟨scc26, acc26, bcc26, eacc26, ebcc26, racc26, rbcc26, tscc26⟩ := k25
    refine X_aloadn hK (i := 0) 0 kd45_5.2.1 rfl rfl ?_
    refine X_aloadn hK (i := 0) 0 kd45_5.2.2.1 rfl rfl ?_
    refine X_getK hK fl_X11_19_12 (qr18 _ _ hs_a0) ((hg19 a0 12 0 1 hs_a0 (by decide)).trans ((xs_a hg16 (xne (qr18 _ _ hs_a0) (qr18 _ _ hs_w0) (by decide))).trans ((xs_k hg15 (by decide)).trans ((hg11 a0 12 0 1 hs_a0 (by decide)).trans em0)))) kd45_5.2.2.2.1 ?_
    refine X_getK hK fl_X11_312_6 (qr18 _ _ hs_m0) ebcc26 kd45_5.2.2.2.2.1 ?_
    refine X_puti hK fl_X11_93_12 (qr18 _ _ hs_a0) (by decide) sl_12_15 (by omega) (by omega) kd45_5.2.2.2.2.2.1 (fun g27 hg27 => ?_)
    refine X_aloadn hK (i := 0) 0 kd45_5.2.2.2.2.2.2.1 rfl rfl ?_
    refine X_getK hK fl_X11_19_12 (qr18 _ _ hs_a0) ((xs_k hg27 (by decide)).trans ((hg19 a0 12 0 1 hs_a0 (by decide)).trans ((xs_a hg16 (xne (qr18 _ _ hs_a0) (qr18 _ _ hs_w0) (by decide))).trans ((xs_k hg15 (by decide)).trans ((hg11 a0 12 0 1 hs_a0 (by decide)).trans em0))))) kd45_5.2.2.2.2.2.2.2.1 ?_
    refine X_getK hK fl_X11_315_6 (qr18 _ _ hs_m0) ((xs_k hg27 (by decide)).trans eacc26) kd45_5.2.2.2.2.2.2.2.2.1 ?_
    exact hret _ _ _ _ _ _ _ kd45_5.2.2.2.2.2.2.2.2.2.1 ⟨(xNw2.tr xNw2.rf wr18 (by decide)), acc26, rfl, (by omega), (by omega), (xLs_up k21 hg27 (qr18 _ _ hs_a0) (by decide)), k22, (by omega), (((xs_k hg27 (by decide)).trans ((hg19 w0 10 0 1 hs_w0 (by decide)).trans (xs_s hg16))).trans (by congr 2 <;> omega)), ⟨Ft14, bcc26, ((xs_k hg27 (by decide)).trans ((hg19 a0 12 0 13 hs_a0 (by decide)).trans ((xs_k hg16 (by decide)).trans (xs_s hg15)))), (xs_s hg27), by omega, by omega, mt14, qt14, Tt14, kt14, (xUW.m (xUW.m (xUW.m (xUW.m (xUW.m hp2 hg11 xLe.rf (by decide)) (xM_up (L := [(12, 13)]) xM.rf hg15 hs_a0 (by decide) (by decide)) xLe.rf (by decide)) (xM_up (L := [(10, 1)]) xM.rf hg16 hs_w0 (by decide) (by decide)) xLe.rf (by decide)) hg19 qr18 (by decide)) (xM_up (L := [(12, 15)]) xM.rf hg27 (qr18 _ _ hs_a0) (by decide) (by decide)) xLe.rf (by decide)), (xBW.m (xBW.m (xBW.m (xBW.m (xBW.m hp3 hg11 xLe.rf (by decide)) (xM_up (L := [(12, 13)]) xM.rf hg15 hs_a0 (by decide) (by decide)) xLe.rf (by decide)) (xM_up (L := [(10, 1)]) xM.rf hg16 hs_w0 (by decide) (by decide)) xLe.rf (by decide)) hg19 qr18 (by decide)) (xM_up (L := [(12, 15)]) xM.rf hg27 (qr18 _ _ hs_a0) (by decide) (by decide)) xLe.rf (by decide)), (xXW.m (xXW.m (xXW.m (xXW.m xwR (xM_up (L := [(12, 13)]) xM.rf hg15 hs_a0 (by decide) (by decide)) xLe.rf (by decide)) (xM_up (L := [(10, 1)]) xM.rf hg16 hs_w0 (by decide) (by decide)) xLe.rf (by decide)) hg19 qr18 (by decide)) (xM_up (L := [(12, 15)]) xM.rf hg27 (qr18 _ _ hs_a0) (by decide) (by decide)) xLe.rf (by decide)), (xET.m (xET.m (xET.m (xET.m etR (xM_up (L := [(12, 13)]) xM.rf hg15 hs_a0 (by decide) (by decide)) xLe.rf (by decide)) (xM_up (L := [(10, 1)]) xM.rf hg16 hs_w0 (by decide) (by decide)) xLe.rf (by decide)) hg19 qr18 (by decide)) (xM_up (L := [(12, 15)]) xM.rf hg27 (qr18 _ _ hs_a0) (by decide) (by decide)) xLe.rf (by decide)), (xDS.m (xDS.m (xDS.m (xDS.m (xDS.m hp6 hg11 xLe.rf (by decide)) (xM_up (L := [(12, 13)]) xM.rf hg15 hs_a0 (by decide) (by decide)) xLe.rf (by decide)) (xM_up (L := [(10, 1)]) xM.rf hg16 hs_w0 (by decide) (by decide)) xLe.rf (by decide)) hg19 qr18 (by decide)) (xM_up (L := [(12, 15)]) xM.rf hg27 (qr18 _ _ hs_a0) (by decide) (by decide)) xLe.rf (by decide)), (fun h9 => absurd h9 (by omega)), (fun _ => ⟨scc26, (by have h9 := tscc26; rw [(Eq.trans (Eq.trans (xv_a hg16 (xne (qr18 _ _ hs_ow) (qr18 _ _ hs_w0) (by decide))) (xv_a hg15 (xne (qr18 _ _ hs_ow) (qr18 _ _ hs_a0) (by decide)))) (xv_m hg11 hs_ow (by decide) (by decide))), (Eq.trans (Eq.trans (xv_a hg16 (xne (qr18 _ _ hs_sk) (qr18 _ _ hs_w0) (by decide))) (xv_a hg15 (xne (qr18 _ _ hs_sk) (qr18 _ _ hs_a0) (by decide)))) (xv_m hg11 hs_sk (by decide) (by decide))), (Eq.trans (Eq.trans (xv_a hg16 (xne (qr18 _ _ hs_wt) (qr18 _ _ hs_w0) (by decide))) (xv_a hg15 (xne (qr18 _ _ hs_wt) (qr18 _ _ hs_a0) (by decide)))) (xv_m hg11 hs_wt (by decide) (by decide))), (Eq.trans (Eq.trans (xv_a hg16 (xne (qr18 _ _ hs_ld) (qr18 _ _ hs_w0) (by decide))) (xv_a hg15 (xne (qr18 _ _ hs_ld) (qr18 _ _ hs_a0) (by decide)))) (xv_m hg11 hs_ld (by decide) (by decide)))] at h9; exact h9)⟩)⟩⟩ (by omega) (by omega)
  · refine X_ldcw hK (n := -1000000000) kd45_4.1 m_47_18 (by decide) ?_
    refine X_aloadn hK (i := 0) 0 kd45_4.2.1 rfl rfl ?_
    refine X_getK hK fl_X11_52_12 hs_a0 ((xs_k hg16 (by decide)).trans ((xs_k hg15 (by decide)).trans ((hg11 a0 12 0 6 hs_a0 (by decide)).trans eb1))) kd45_4.2.2.1 ?_
    refine X_getK hK fl_X11_202_8 hs_b1 ((xs_k hg16 (by decide)).trans ((xs_k hg15 (by decide)).trans eqt14)) kd45_4.2.2.2.1 ?_
    refine X_isub hK kd45_4.2.2.2.2.1 ?_
    exact hret _ _ _ _ _ _ _ kd45_4.2.2.2.2.2.1 ⟨xNw2.rf, ((-1000000000) - qt14), rfl, (by omega), (by omega), (xLs_up (xLs_up (xLs_mod hp0 hg11 (by decide)) hg15 hs_a0 (by decide)) hg16 hs_w0 (by decide)), hp1, (by omega), ((xs_s hg16).trans (by congr 2 <;> omega)), ⟨Ft14, te, ((xs_k hg16 (by decide)).trans (xs_s hg15)), ((xs_k hg16 (by decide)).trans ((xs_k hg15 (by decide)).trans ((hg11 a0 12 0 15 hs_a0 (by decide)).trans ete))), by omega, by omega, mt14, qt14, Tt14, kt14, (xUW.m (xUW.m (xUW.m hp2 hg11 xLe.rf (by decide)) (xM_up (L := [(12, 13)]) xM.rf hg15 hs_a0 (by decide) (by decide)) xLe.rf (by decide)) (xM_up (L := [(10, 1)]) xM.rf hg16 hs_w0 (by decide) (by decide)) xLe.rf (by decide)), (xBW.m (xBW.m (xBW.m hp3 hg11 xLe.rf (by decide)) (xM_up (L := [(12, 13)]) xM.rf hg15 hs_a0 (by decide) (by decide)) xLe.rf (by decide)) (xM_up (L := [(10, 1)]) xM.rf hg16 hs_w0 (by decide) (by decide)) xLe.rf (by decide)), (xXW.m (xXW.m xwR (xM_up (L := [(12, 13)]) xM.rf hg15 hs_a0 (by decide) (by decide)) xLe.rf (by decide)) (xM_up (L := [(10, 1)]) xM.rf hg16 hs_w0 (by decide) (by decide)) xLe.rf (by decide)), (xET.m (xET.m etR (xM_up (L := [(12, 13)]) xM.rf hg15 hs_a0 (by decide) (by decide)) xLe.rf (by decide)) (xM_up (L := [(10, 1)]) xM.rf hg16 hs_w0 (by decide) (by decide)) xLe.rf (by decide)), (xDS.m (xDS.m (xDS.m hp6 hg11 xLe.rf (by decide)) (xM_up (L := [(12, 13)]) xM.rf hg15 hs_a0 (by decide) (by decide)) xLe.rf (by decide)) (xM_up (L := [(10, 1)]) xM.rf hg16 hs_w0 (by decide) (by decide)) xLe.rf (by decide)), (fun _ => ⟨by omega, by omega⟩), (fun h9 => absurd h9 (by omega))⟩⟩ (by omega) (by omega)
