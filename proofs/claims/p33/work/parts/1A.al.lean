def xcaps : List Nat := [0, 10, 15, 22, 33, 49, 73, 109, 163, 244]
theorem xcaps_le {n : Nat} (h : n ∈ xcaps) : n ≤ 244 := by
  have : ∀ m ∈ xcaps, m ≤ 244 := by decide
  exact this n h
def xAL (S : xT) (g : xG) (a td te cap : Nat) : Prop := ∃ (b n : Nat) (z : Int), g a 1 = .ref b ∧ ((S b = some (td, n) ∧ n ≠ 0) ∨ (S b = some (20003, 0) ∧ n = 0)) ∧ n ∈ xcaps ∧ g a 2 = .int (iI z) ∧ 0 ≤ z ∧ z ≤ n ∧ z ≤ cap ∧ ∀ k : Nat, (k : Int) < z → ∃ e : Nat, g b k = .ref e ∧ S e = some (te, 0)
def xL1 (S : xT) (g : xG) (tl td te cap : Nat) : Prop := (∀ a n a' n', S a = some (tl, n) → S a' = some (tl, n') → a = a') ∧ ∀ a n, S a = some (tl, n) → xAL S g a td te cap
theorem xAL.same {S : xT} {g g1 : xG} {a td te cap : Nat} (h : xAL S g a td te cap) (e1 : g1 a 1 = g a 1) (e2 : g1 a 2 = g a 2) (e3 : ∀ b n, S b = some (td, n) → ∀ k, g1 b k = g b k) : xAL S g1 a td te cap := by
  obtain ⟨b, n, z, h1, h2, h3, h4, h5, h6, h7, h8⟩ := h
  refine ⟨b, n, z, e1.trans h1, h2, h3, e2.trans h4, h5, h6, h7, fun k hk => ?_⟩
  obtain ⟨e, w1, w2⟩ := h8 k hk
  rcases h2 with h2 | ⟨-, h2⟩
  · exact ⟨e, (e3 b n h2.1 k).trans w1, w2⟩
  · omega
theorem xAL.ext {S S1 : xT} {g : xG} {a td te cap : Nat} (h : xAL S g a td te cap) (hle : xLe S S1) : xAL S1 g a td te cap := by
  obtain ⟨b, n, z, h1, h2, h3, h4, h5, h6, h7, h8⟩ := h
  refine ⟨b, n, z, h1, ?_, h3, h4, h5, h6, h7, fun k hk => ?_⟩
  · rcases h2 with h2 | ⟨h2, h9⟩
    · exact Or.inl ⟨hle _ _ h2.1, h2.2⟩
    · exact Or.inr ⟨hle _ _ h2, h9⟩
  · obtain ⟨e, w1, w2⟩ := h8 k hk
    exact ⟨e, w1, hle _ _ w2⟩
theorem xL1.mod {S : xT} {g g1 : xG} {tl td te cap : Nat} {L : List (Nat × Nat)} (h : xL1 S g tl td te cap) (hm : xM L S g g1) (ht : tl < 10000) (hd : 10000 ≤ td) (h1 : (tl, 1) ∉ L) (h2 : (tl, 2) ∉ L) (h3 : (td, 0) ∉ L) : xL1 S g1 tl td te cap :=
  ⟨h.1, fun a n hs => (h.2 a n hs).same (hm a tl n 1 hs (by rw [xky_o ht]; exact h1)) (hm a tl n 2 hs (by rw [xky_o ht]; exact h2)) (fun b m hb k => hm b td m k hb (by rw [xky_a hd]; exact h3))⟩
theorem xL1.up {S : xT} {g g1 : xG} {tl td te cap a t n k : Nat} {v : Value} (h : xL1 S g tl td te cap) (hg : g1 = xup g a k v) (hs : S a = some (t, n)) (h1 : t ≠ tl ∨ (k ≠ 1 ∧ k ≠ 2)) (h2 : t ≠ td) : xL1 S g1 tl td te cap := by
  have ne : ∀ b m u, S b = some (u, m) → u ≠ t → b ≠ a := fun b m u hb hu e => by rw [e, hs] at hb; cases hb; exact hu rfl
  refine ⟨h.1, fun b m hb => (h.2 b m hb).same ?_ ?_ (fun c q hc j => xs_a hg (ne c q td hc (fun e => h2 e.symm)))⟩
  · rcases h1 with h1 | h1
    · exact xs_a hg (ne b m tl hb (fun e => h1 e.symm))
    · exact xs_k hg (fun e => h1.1 e.symm)
  · rcases h1 with h1 | h1
    · exact xs_a hg (ne b m tl hb (fun e => h1 e.symm))
    · exact xs_k hg (fun e => h1.2 e.symm)
theorem xL1.ext {S S1 : xT} {g : xG} {tl td te cap : Nat} (h : xL1 S g tl td te cap) (hle : xLe S S1) (hn : ∀ a n, S1 a = some (tl, n) → S a = some (tl, n)) : xL1 S1 g tl td te cap :=
  ⟨fun a n a' n' w1 w2 => h.1 a n a' n' (hn a n w1) (hn a' n' w2), fun a n hs => (h.2 a n (hn a n hs)).ext hle⟩
def xLs (S : xT) (g : xG) : Prop := xL1 S g 0 10103 1 40 ∧ xL1 S g 100 10203 2 200 ∧ xL1 S g 200 10403 2 200 ∧ xL1 S g 300 10303 11 10
def xnl (q : Nat × Nat) : Bool := q.1 != 10103 && q.1 != 10203 && q.1 != 10403 && q.1 != 10303 && (!(q.1 == 0 || q.1 == 100 || q.1 == 200 || q.1 == 300) || (q.2 != 1 && q.2 != 2))
theorem xnl_n {L : List (Nat × Nat)} (h : L.all xnl = true) : ((0, 1) ∉ L ∧ (0, 2) ∉ L ∧ (10103, 0) ∉ L) ∧ ((100, 1) ∉ L ∧ (100, 2) ∉ L ∧ (10203, 0) ∉ L) ∧ ((200, 1) ∉ L ∧ (200, 2) ∉ L ∧ (10403, 0) ∉ L) ∧ ((300, 1) ∉ L ∧ (300, 2) ∉ L ∧ (10303, 0) ∉ L) := by
  have k : ∀ q ∈ L, xnl q = true := List.all_eq_true.mp h
  refine ⟨⟨?_, ?_, ?_⟩, ⟨?_, ?_, ?_⟩, ⟨?_, ?_, ?_⟩, ⟨?_, ?_, ?_⟩⟩ <;> (intro hm; have := k _ hm; revert this; decide)
theorem xLs_mod {S : xT} {g g1 : xG} {L : List (Nat × Nat)} (h : xLs S g) (hm : xM L S g g1) (hn : L.all xnl = true) : xLs S g1 := by
  obtain ⟨⟨a1, a2, a3⟩, ⟨b1, b2, b3⟩, ⟨c1, c2, c3⟩, ⟨d1, d2, d3⟩⟩ := xnl_n hn
  exact ⟨h.1.mod hm (by decide) (by decide) a1 a2 a3, h.2.1.mod hm (by decide) (by decide) b1 b2 b3, h.2.2.1.mod hm (by decide) (by decide) c1 c2 c3, h.2.2.2.mod hm (by decide) (by decide) d1 d2 d3⟩
theorem xnl_t {t k : Nat} (h : xnl (t, k) = true) : ((t ≠ 0 ∨ (k ≠ 1 ∧ k ≠ 2)) ∧ t ≠ 10103) ∧ ((t ≠ 100 ∨ (k ≠ 1 ∧ k ≠ 2)) ∧ t ≠ 10203) ∧ ((t ≠ 200 ∨ (k ≠ 1 ∧ k ≠ 2)) ∧ t ≠ 10403) ∧ ((t ≠ 300 ∨ (k ≠ 1 ∧ k ≠ 2)) ∧ t ≠ 10303) := by
  simp only [xnl, Bool.and_eq_true, bne_iff_ne, ne_eq, Bool.or_eq_true, Bool.not_eq_true', Bool.or_eq_false_iff, beq_eq_false_iff_ne] at h
  omega
theorem xLs_up {S : xT} {g g1 : xG} {a t n k : Nat} {v : Value} (h : xLs S g) (hg : g1 = xup g a k v) (hs : S a = some (t, n)) (hn : xnl (t, k) = true) : xLs S g1 := by
  obtain ⟨⟨a1, a2⟩, ⟨b1, b2⟩, ⟨c1, c2⟩, ⟨d1, d2⟩⟩ := xnl_t hn
  exact ⟨h.1.up hg hs a1 a2, h.2.1.up hg hs b1 b2, h.2.2.1.up hg hs c1 c2, h.2.2.2.up hg hs d1 d2⟩
theorem xLs_ext {S S1 : xT} {g : xG} (h : xLs S g) (hle : xLe S S1) (hn : ∀ a t n, S1 a = some (t, n) → (t = 0 ∨ t = 100 ∨ t = 200 ∨ t = 300) → S a = some (t, n)) : xLs S1 g :=
  ⟨h.1.ext hle (fun a n w => hn a _ n w (by omega)), h.2.1.ext hle (fun a n w => hn a _ n w (by omega)), h.2.2.1.ext hle (fun a n w => hn a _ n w (by omega)), h.2.2.2.ext hle (fun a n w => hn a _ n w (by omega))⟩
theorem xLs_0 {S : xT} {g : xG} (h : xLs S g) : xL1 S g 0 10103 1 40 := h.1
theorem xLs_100 {S : xT} {g : xG} (h : xLs S g) : xL1 S g 100 10203 2 200 := h.2.1
theorem xLs_200 {S : xT} {g : xG} (h : xLs S g) : xL1 S g 200 10403 2 200 := h.2.2.1
theorem xLs_300 {S : xT} {g : xG} (h : xLs S g) : xL1 S g 300 10303 11 10 := h.2.2.2
