
def xLv (S : xT) (g : xG) (a tl td : Nat) (n : Int) : Prop := S a = some (tl, 0) ∧ (0 < n → ∃ (b z : Nat), g a 1 = .ref b ∧ S b = some (td, z))
theorem xLv.of {S : xT} {g : xG} {a tl td te cap : Nat} {n : Int} (hs : S a = some (tl, 0)) (h : xAL S g a td te cap) (e : g a 2 = .int (iI n)) (hn : 0 ≤ n ∧ n ≤ 2147483647) : xLv S g a tl td n := by
  obtain ⟨b, m, z, e1, e2, e3, e4, e5, e6, e7, e8⟩ := h
  have ez : n = z := xinj e e4 (by omega) (by have := xcaps_le e3; omega)
  refine ⟨hs, fun q => ?_⟩
  rcases e2 with e2 | e2
  · exact ⟨b, m, e1, e2.1⟩
  · omega
theorem xLv.m {S S1 : xT} {g g1 : xG} {a tl td : Nat} {n : Int} {L : List (Nat × Nat)} (h : xLv S g a tl td n) (hm : xM L S g g1) (hle : xLe S S1) (ht : tl < 10000) (h1 : (tl, 1) ∉ L) : xLv S1 g1 a tl td n := by
  refine ⟨hle _ _ h.1, fun q => ?_⟩
  obtain ⟨b, z, e1, e2⟩ := h.2 q
  exact ⟨b, z, by rw [hm a tl 0 1 h.1 (by rw [xky_o ht]; exact h1)]; exact e1, hle _ _ e2⟩
theorem xLv.el {S : xT} {g g1 : xG} {a tl td : Nat} {n k : Int} {L : List (Nat × Nat)} (h : xLv S g a tl td n) (hm : xM L S g g1) (ht : tl < 10000) (hd : 10000 ≤ td) (h1 : (tl, 1) ∉ L) (h3 : (td, 0) ∉ L) (hk : 0 ≤ k ∧ k < n) : xel g1 a k = xel g a k := by
  obtain ⟨b, z, e1, e2⟩ := h.2 (by omega)
  have m1 : g1 a 1 = g a 1 := hm a tl 0 1 h.1 (by rw [xky_o ht]; exact h1)
  exact xel.same e1 m1 (hm b td z _ e2 (by rw [xky_a hd]; exact h3))
def xBr (Y : Nat → Int → Int) (k : Int) : Prop := Y 0 k = k ∧ (6 ≤ Y 1 k ∧ Y 1 k ≤ 18) ∧ (0 ≤ Y 2 k ∧ Y 2 k ≤ 1) ∧ (0 ≤ Y 3 k ∧ Y 3 k ≤ 99) ∧ (-1 ≤ Y 4 k ∧ Y 4 k ≤ 399) ∧ (-2147483648 ≤ Y 5 k ∧ Y 5 k ≤ 2147483647)
def xBW (S : xT) (g : xG) (bo : Nat) (nb : Int) (B : Int → Nat) (Y : Nat → Int → Int) : Prop := xLv S g bo 0 10103 nb ∧ ∀ k : Int, 0 ≤ k → k < nb → xel g bo k = B k ∧ S (B k) = some (1, 0) ∧ (∀ f : Nat, f ≤ 5 → g (B k) f = .int (iI (Y f k))) ∧ xBr Y k
def xUr (Y : Nat → Int → Int) (k : Int) : Prop := (0 ≤ Y 1 k ∧ Y 1 k ≤ 3) ∧ (0 ≤ Y 2 k ∧ Y 2 k ≤ 9) ∧ (1 ≤ Y 3 k ∧ Y 3 k ≤ 1000) ∧ (4 ≤ Y 4 k ∧ Y 4 k ≤ 20) ∧ (0 ≤ Y 5 k ∧ Y 5 k ≤ 399) ∧ Y 6 k = (4 * Y 5 k + Y 1 k) * 10 + Y 2 k
def xUW (S : xT) (g : xG) (bn : Nat) (nu nb : Int) (U B : Int → Nat) (Y : Nat → Int → Int) : Prop := xLv S g bn 100 10203 nu ∧ (∀ k : Int, 0 ≤ k → k < nu → xel g bn k = U k ∧ S (U k) = some (2, 0) ∧ g (U k) 0 = .ref (B (Y 0 k)) ∧ (0 ≤ Y 0 k ∧ Y 0 k < nb) ∧ (∀ f : Nat, 1 ≤ f → f ≤ 10 → g (U k) f = .int (iI (Y f k)) ∧ -2147483648 ≤ Y f k ∧ Y f k ≤ 2147483647) ∧ xUr Y k) ∧ (∀ j k : Int, 0 ≤ j → j < nu → 0 ≤ k → k < nu → U j = U k → j = k)
def xQW (S : xT) (g : xG) (w3 : Nat) (m : Int) (U : Int → Nat) (q : Int → Int) : Prop := xLv S g w3 200 10403 m ∧ ∀ i : Int, 0 ≤ i → i < m → xel g w3 i = U (q i)
theorem xQW.m {S S1 : xT} {g g1 : xG} {w3 : Nat} {L : List (Nat × Nat)} {m : Int} {U : Int → Nat} {q : Int → Int} (h : xQW S g w3 m U q) (hm : xM L S g g1) (hle : xLe S S1) (hL : ∀ x ∈ [(200, 1), (10403, 0)], x ∉ L) : xQW S1 g1 w3 m U q := ⟨h.1.m hm hle (by decide) (hL _ (by decide)), fun i q1 q2 => (h.1.el hm (by decide) (by decide) (hL _ (by decide)) (hL _ (by decide)) ⟨q1, q2⟩).trans (h.2 i q1 q2)⟩
theorem xBW.m {S S1 : xT} {g g1 : xG} {bo : Nat} {L : List (Nat × Nat)} {nb : Int} {B : Int → Nat} {Y : Nat → Int → Int} (h : xBW S g bo nb B Y) (hm : xM L S g g1) (hle : xLe S S1) (hL : ∀ x ∈ [(0, 1), (10103, 0), (1, 0), (1, 1), (1, 2), (1, 3), (1, 4), (1, 5)], x ∉ L) : xBW S1 g1 bo nb B Y := ⟨h.1.m hm hle (by decide) (hL _ (by decide)), fun k q1 q2 => by
  obtain ⟨a1, a2, a3, a4⟩ := h.2 k q1 q2
  refine ⟨(h.1.el hm (by decide) (by decide) (hL _ (by decide)) (hL _ (by decide)) ⟨q1, q2⟩).trans a1, hle _ _ a2, fun f hf => ?_, a4⟩
  rw [hm (B k) 1 0 f a2 (by rw [xky_o (by decide)]; exact hL _ (by rcases (show f = 0 ∨ f = 1 ∨ f = 2 ∨ f = 3 ∨ f = 4 ∨ f = 5 by omega) with e | e | e | e | e | e <;> subst e <;> decide))]
  exact a3 f hf⟩
theorem xUW.m {S S1 : xT} {g g1 : xG} {bn : Nat} {L : List (Nat × Nat)} {nu nb : Int} {U B : Int → Nat} {Y : Nat → Int → Int} (h : xUW S g bn nu nb U B Y) (hm : xM L S g g1) (hle : xLe S S1) (hL : ∀ x ∈ [(100, 1), (10203, 0), (2, 0), (2, 1), (2, 2), (2, 3), (2, 4), (2, 5), (2, 6), (2, 7), (2, 8), (2, 9), (2, 10)], x ∉ L) : xUW S1 g1 bn nu nb U B Y := by
  have hf : ∀ f : Nat, f ≤ 10 → (2, f) ∉ L := fun f hf => hL _ (by rcases (show f = 0 ∨ f = 1 ∨ f = 2 ∨ f = 3 ∨ f = 4 ∨ f = 5 ∨ f = 6 ∨ f = 7 ∨ f = 8 ∨ f = 9 ∨ f = 10 by omega) with e | e | e | e | e | e | e | e | e | e | e <;> subst e <;> decide)
  refine ⟨h.1.m hm hle (by decide) (hL _ (by decide)), fun k q1 q2 => ?_, h.2.2⟩
  obtain ⟨a1, a2, a3, a4, a5, a6⟩ := h.2.1 k q1 q2
  refine ⟨(h.1.el hm (by decide) (by decide) (hL _ (by decide)) (hL _ (by decide)) ⟨q1, q2⟩).trans a1, hle _ _ a2, ?_, a4, fun f f1 f2 => ?_, a6⟩
  · rw [hm (U k) 2 0 0 a2 (by rw [xky_o (by decide)]; exact hf 0 (by omega))]; exact a3
  · rw [hm (U k) 2 0 f a2 (by rw [xky_o (by decide)]; exact hf f f2)]; exact a5 f f1 f2
theorem xBW.inj {S : xT} {g : xG} {bo : Nat} {nb : Int} {B : Int → Nat} {Y : Nat → Int → Int} (h : xBW S g bo nb B Y) (hn : nb ≤ 40) {j k : Int} (j1 : 0 ≤ j) (j2 : j < nb) (k1 : 0 ≤ k) (k2 : k < nb) (e : B j = B k) : j = k := by
  obtain ⟨-, -, a3, a4⟩ := h.2 j j1 j2
  obtain ⟨-, -, b3, b4⟩ := h.2 k k1 k2
  have a := a3 0 (by decide)
  have b := b3 0 (by decide)
  rw [a4.1] at a
  rw [b4.1, ← e] at b
  exact xinj a b (by omega) (by omega)
theorem xUW.cry {S : xT} {g g1 : xG} {bn : Nat} {L : List (Nat × Nat)} {nu nb k v bk ea : Int} {U B : Int → Nat} {Y : Nat → Int → Int} (h : xUW S g bn nu nb U B Y) (hm : xM L S g g1) (hfr : xFr 2 S g g1 (U k)) (hk : 0 ≤ k ∧ k < nu) (e8 : g1 (U k) 8 = .int (iI v)) (e9 : g1 (U k) 9 = .int (iI bk)) (e10 : g1 (U k) 10 = .int (iI ea)) (r8 : -2147483648 ≤ v ∧ v ≤ 2147483647) (r9 : -2147483648 ≤ bk ∧ bk ≤ 2147483647) (r10 : -2147483648 ≤ ea ∧ ea ≤ 2147483647) (hL : ∀ x ∈ [(100, 1), (10203, 0), (2, 0), (2, 1), (2, 2), (2, 3), (2, 4), (2, 5), (2, 6), (2, 7)], x ∉ L) : xUW S g1 bn nu nb U B (xyu (xyu (xyu Y 8 k v) 9 k bk) 10 k ea) := by
  have hf : ∀ f : Nat, f ≤ 7 → (2, f) ∉ L := fun f hf => hL _ (by rcases (show f = 0 ∨ f = 1 ∨ f = 2 ∨ f = 3 ∨ f = 4 ∨ f = 5 ∨ f = 6 ∨ f = 7 by omega) with e | e | e | e | e | e | e | e <;> subst e <;> decide)
  have yf : ∀ (f : Nat) (j : Int), f ≤ 7 → xyu (xyu (xyu Y 8 k v) 9 k bk) 10 k ea f j = Y f j := fun f j hf => by rw [xyu.f (by omega), xyu.f (by omega), xyu.f (by omega)]
  refine ⟨h.1.m hm xLe.rf (by decide) (hL _ (by decide)), fun j q1 q2 => ?_, h.2.2⟩
  obtain ⟨a1, a2, a3, a4, a5, a6⟩ := h.2.1 j q1 q2
  refine ⟨(h.1.el hm (by decide) (by decide) (hL _ (by decide)) (hL _ (by decide)) ⟨q1, q2⟩).trans a1, a2, ?_, by rw [yf 0 j (by decide)]; exact a4, fun f f1 f2 => ?_, ?_⟩
  · rw [hm (U j) 2 0 0 a2 (by rw [xky_o (by decide)]; exact hf 0 (by omega)), yf 0 j (by decide)]; exact a3
  · by_cases c : f ≤ 7
    · rw [hm (U j) 2 0 f a2 (by rw [xky_o (by decide)]; exact hf f c), yf f j c]; exact a5 f f1 f2
    · by_cases e : j = k
      · subst e
        rcases (show f = 8 ∨ f = 9 ∨ f = 10 by omega) with w | w | w <;> subst w
        · rw [xyu.f (by decide), xyu.f (by decide), xyu.s]; exact ⟨e8, r8⟩
        · rw [xyu.f (by decide), xyu.s]; exact ⟨e9, r9⟩
        · rw [xyu.s]; exact ⟨e10, r10⟩
      · rw [hfr (U j) 0 f a2 (fun q => e (h.2.2 j k q1 q2 hk.1 hk.2 q)), xyu.k e, xyu.k e, xyu.k e]
        exact a5 f f1 f2
  · unfold xUr
    rw [yf 1 j (by decide), yf 2 j (by decide), yf 3 j (by decide), yf 4 j (by decide), yf 5 j (by decide), yf 6 j (by decide)]
    exact a6
theorem xBW.cry {S : xT} {g g1 : xG} {bo : Nat} {L : List (Nat × Nat)} {nb k c : Int} {B : Int → Nat} {Y : Nat → Int → Int} (h : xBW S g bo nb B Y) (hn : nb ≤ 40) (hm : xM L S g g1) (hfr : xFr 1 S g g1 (B k)) (hk : 0 ≤ k ∧ k < nb) (e5 : g1 (B k) 5 = .int (iI c)) (r5 : -2147483648 ≤ c ∧ c ≤ 2147483647) (hL : ∀ x ∈ [(0, 1), (10103, 0), (1, 0), (1, 1), (1, 2), (1, 3), (1, 4)], x ∉ L) : xBW S g1 bo nb B (xyu Y 5 k c) := by
  have hf : ∀ f : Nat, f ≤ 4 → (1, f) ∉ L := fun f hf => hL _ (by rcases (show f = 0 ∨ f = 1 ∨ f = 2 ∨ f = 3 ∨ f = 4 by omega) with e | e | e | e | e <;> subst e <;> decide)
  refine ⟨h.1.m hm xLe.rf (by decide) (hL _ (by decide)), fun j q1 q2 => ?_⟩
  obtain ⟨a1, a2, a3, a4⟩ := h.2 j q1 q2
  refine ⟨(h.1.el hm (by decide) (by decide) (hL _ (by decide)) (hL _ (by decide)) ⟨q1, q2⟩).trans a1, a2, fun f f2 => ?_, ?_⟩
  · by_cases c4 : f ≤ 4
    · rw [hm (B j) 1 0 f a2 (by rw [xky_o (by decide)]; exact hf f c4), xyu.f (by omega)]; exact a3 f f2
    · have e : f = 5 := by omega
      subst e
      by_cases e : j = k
      · subst e; rw [xyu.s]; exact e5
      · rw [hfr (B j) 0 5 a2 (fun q => e (h.inj hn q1 q2 hk.1 hk.2 q)), xyu.k e]; exact a3 5 f2
  · unfold xBr at a4 ⊢
    rw [xyu.f (by decide), xyu.f (by decide), xyu.f (by decide), xyu.f (by decide), xyu.f (by decide)]
    refine ⟨a4.1, a4.2.1, a4.2.2.1, a4.2.2.2.1, a4.2.2.2.2.1, ?_⟩
    by_cases e : j = k
    · rw [e, xyu.s]; exact r5
    · rw [xyu.k e]; exact a4.2.2.2.2.2
def xKY (Y YB : Nat → Int → Int) (ow : Int → Int) (k : Int) : Int := 200 * xky9 (Y 2 k) (Y 1 k) (Y 4 k) (if ow (Y 2 k) = Y 0 k then 1 else 0) (YB 3 (Y 0 k)) + k
theorem xKY.lt {Y YB : Nat → Int → Int} {ow : Int → Int} {i j : Int} (hi : 0 ≤ i ∧ i < 200) (hj : 0 ≤ j ∧ j < 200) (h : j < i) : (xky9 (Y 2 i) (Y 1 i) (Y 4 i) (if ow (Y 2 i) = Y 0 i then 1 else 0) (YB 3 (Y 0 i)) < xky9 (Y 2 j) (Y 1 j) (Y 4 j) (if ow (Y 2 j) = Y 0 j then 1 else 0) (YB 3 (Y 0 j))) ↔ xKY Y YB ow i < xKY Y YB ow j := by
  unfold xKY
  generalize xky9 (Y 2 i) (Y 1 i) (Y 4 i) (if ow (Y 2 i) = Y 0 i then 1 else 0) (YB 3 (Y 0 i)) = a
  generalize xky9 (Y 2 j) (Y 1 j) (Y 4 j) (if ow (Y 2 j) = Y 0 j then 1 else 0) (YB 3 (Y 0 j)) = b
  omega
theorem xKY.ne {Y YB : Nat → Int → Int} {ow : Int → Int} {i j : Int} (hi : 0 ≤ i ∧ i < 200) (hj : 0 ≤ j ∧ j < 200) (h : i ≠ j) : xKY Y YB ow i ≠ xKY Y YB ow j := by
  unfold xKY
  generalize xky9 (Y 2 i) (Y 1 i) (Y 4 i) (if ow (Y 2 i) = Y 0 i then 1 else 0) (YB 3 (Y 0 i)) = a
  generalize xky9 (Y 2 j) (Y 1 j) (Y 4 j) (if ow (Y 2 j) = Y 0 j then 1 else 0) (YB 3 (Y 0 j)) = b
  omega
theorem xKY.pl {Y YB : Nat → Int → Int} {ow : Int → Int} {j k : Int} (hj : 0 ≤ j ∧ j < 200) (hk : 0 ≤ k ∧ k < 200) (uj : xUr Y j) (uk : xUr Y k) (fj : 0 ≤ YB 3 (Y 0 j) ∧ YB 3 (Y 0 j) ≤ 99) (fk : 0 ≤ YB 3 (Y 0 k) ∧ YB 3 (Y 0 k) ≤ 99) (h : 4 * Y 2 j + Y 1 j < 4 * Y 2 k + Y 1 k) : xKY Y YB ow j < xKY Y YB ow k := by
  unfold xUr at uj uk
  unfold xKY xky9
  have h8 := xow01 (ow (Y 2 j) = Y 0 j)
  have h7 := xow01 (ow (Y 2 k) = Y 0 k)
  generalize (if ow (Y 2 j) = Y 0 j then (1 : Int) else 0) = a at h8 ⊢
  generalize (if ow (Y 2 k) = Y 0 k then (1 : Int) else 0) = b at h7 ⊢
  omega
theorem xKY.nn {Y YB : Nat → Int → Int} {ow : Int → Int} {k : Int} (hk : 0 ≤ k ∧ k < 200) (uk : xUr Y k) (fk : 0 ≤ YB 3 (Y 0 k) ∧ YB 3 (Y 0 k) ≤ 99) : 0 ≤ xKY Y YB ow k := by
  unfold xUr at uk
  unfold xKY xky9
  have h7 := xow01 (ow (Y 2 k) = Y 0 k)
  generalize (if ow (Y 2 k) = Y 0 k then (1 : Int) else 0) = b at h7 ⊢
  omega
theorem xUW.kp {S : xT} {g : xG} {bn bo : Nat} {nu nb : Int} {U B : Int → Nat} {Y YB : Nat → Int → Int} {ow : Int → Int} (h : xUW S g bn nu nb U B Y) (h2 : xBW S g bo nb B YB) (hn : nu ≤ 200) : ∀ j k : Int, 0 ≤ j → j < ((nu.toNat : Nat) : Int) → 0 ≤ k → k < ((nu.toNat : Nat) : Int) → 4 * Y 2 j + Y 1 j < 4 * Y 2 k + Y 1 k → xKY Y YB ow j < xKY Y YB ow k := fun j k j1 j2 k1 k2 c => by
  obtain ⟨-, -, -, a4, -, a6⟩ := h.2.1 j j1 (by omega)
  obtain ⟨-, -, -, b4, -, b6⟩ := h.2.1 k k1 (by omega)
  have fa := (h2.2 (Y 0 j) a4.1 a4.2).2.2.2
  have fb := (h2.2 (Y 0 k) b4.1 b4.2).2.2.2
  unfold xBr at fa fb
  exact xKY.pl (by omega) (by omega) a6 b6 fa.2.2.2.1 fb.2.2.2.1 c
theorem xUW.pr {S : xT} {g : xG} {bn : Nat} {nu nb : Int} {U B : Int → Nat} {Y : Nat → Int → Int} (h : xUW S g bn nu nb U B Y) : ∀ k : Int, 0 ≤ k → k < ((nu.toNat : Nat) : Int) → 0 ≤ Y 1 k ∧ Y 1 k ≤ 3 := fun k k1 k2 => by
  have b6 := (h.2.1 k k1 (by omega)).2.2.2.2.2
  unfold xUr at b6
  exact b6.1
def xGW (S : xT) (g : xG) (wg tg rt n m : Nat) (f : Int → Int → Int) : Prop := S wg = some (tg, n) ∧ ∀ c : Int, 0 ≤ c → c < n → ∃ r : Nat, g wg c.toNat = .ref r ∧ S r = some (rt, m) ∧ ∀ p : Int, 0 ≤ p → p < m → xv g r p = f c p
def xWW (S : xT) (g : xG) (wg : Nat) (f : Int → Int → Int) : Prop := xGW S g wg 11304 11200 10 4 f
def xHW (S : xT) (g : xG) (hg : Nat) (f : Int → Int → Int) : Prop := xGW S g hg 10904 10800 4 400 f
theorem xGW.m {S S1 : xT} {g g1 : xG} {wg tg rt n m : Nat} {f : Int → Int → Int} {L : List (Nat × Nat)} (h : xGW S g wg tg rt n m f) (hm : xM L S g g1) (hle : xLe S S1) (ht : 10000 ≤ tg) (hr : 10000 ≤ rt) (h1 : (tg, 0) ∉ L) (h2 : (rt, 0) ∉ L) : xGW S1 g1 wg tg rt n m f := ⟨hle _ _ h.1, fun c q1 q2 => by
  obtain ⟨r, e1, e2, e3⟩ := h.2 c q1 q2
  refine ⟨r, by rw [hm wg tg n _ h.1 (by rw [xky_a ht]; exact h1)]; exact e1, hle _ _ e2, fun p p1 p2 => ?_⟩
  rw [xv_m hm e2 hr h2]
  exact e3 p p1 p2⟩
theorem xWW.m {S S1 : xT} {g g1 : xG} {wg : Nat} {f : Int → Int → Int} {L : List (Nat × Nat)} (h : xWW S g wg f) (hm : xM L S g g1) (hle : xLe S S1) (hL : ∀ x ∈ [(11304, 0), (11200, 0)], x ∉ L) : xWW S1 g1 wg f := xGW.m h hm hle (by decide) (by decide) (hL _ (by decide)) (hL _ (by decide))
theorem xHW.m {S S1 : xT} {g g1 : xG} {wg : Nat} {f : Int → Int → Int} {L : List (Nat × Nat)} (h : xHW S g wg f) (hm : xM L S g g1) (hle : xLe S S1) (hL : ∀ x ∈ [(10904, 0), (10800, 0)], x ∉ L) : xHW S1 g1 wg f := xGW.m h hm hle (by decide) (by decide) (hL _ (by decide)) (hL _ (by decide))
