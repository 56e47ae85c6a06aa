def iI (z : Int) : Int32 := Int32.ofInt z
theorem iI_add (a b : Int) : iI a + iI b = iI (a + b) := (Int32.ofInt_add a b).symm
theorem iI_sub (a b : Int) : iI a - iI b = iI (a - b) := (Int32.ofInt_sub a b).symm
theorem iI_mul (a b : Int) : iI a * iI b = iI (a * b) := (Int32.ofInt_mul a b).symm
theorem iI_neg (a : Int) : - iI a = iI (-a) := (Int32.ofInt_neg a).symm
theorem iI_toInt {z : Int} (h : -2147483648 ≤ z) (h2 : z ≤ 2147483647) : (iI z).toInt = z := Int32.toInt_ofInt_of_le (by omega) (by omega)
theorem iI_of (x : Int32) : iI x.toInt = x := Int32.ofInt_toInt x
theorem iI_any (x : Int32) : ∃ z : Int, x = iI z ∧ -2147483648 ≤ z ∧ z ≤ 2147483647 := ⟨x.toInt, (iI_of x).symm, by have := x.le_toInt; omega, by have := x.toInt_lt; omega⟩
theorem iI_lt {a b : Int} (ha : -2147483648 ≤ a ∧ a ≤ 2147483647) (hb : -2147483648 ≤ b ∧ b ≤ 2147483647) : iI a < iI b ↔ a < b := by
  rw [Int32.lt_iff_toInt_lt, iI_toInt ha.1 ha.2, iI_toInt hb.1 hb.2]
theorem iI_le {a b : Int} (ha : -2147483648 ≤ a ∧ a ≤ 2147483647) (hb : -2147483648 ≤ b ∧ b ≤ 2147483647) : iI a ≤ iI b ↔ a ≤ b := by
  rw [Int32.le_iff_toInt_le, iI_toInt ha.1 ha.2, iI_toInt hb.1 hb.2]
theorem iI_eq {a b : Int} (ha : -2147483648 ≤ a ∧ a ≤ 2147483647) (hb : -2147483648 ≤ b ∧ b ≤ 2147483647) : iI a = iI b ↔ a = b := by
  rw [← Int32.toInt_inj, iI_toInt ha.1 ha.2, iI_toInt hb.1 hb.2]
theorem iI_0 : iI 0 = 0 := rfl
theorem iI_clamp {z : Int} (h : 0 ≤ z) (h2 : z ≤ 2147483647) : (iI z).toNatClampNeg = z.toNat := by
  rw [← Int32.toNat_toInt, iI_toInt (by omega) h2]
theorem iI_in {z : Int} {n : Nat} (h : 0 ≤ z) (h2 : z < n) (hn : n ≤ 2147483647) : ¬ (iI z < 0 ∨ n ≤ (iI z).toNatClampNeg) := by
  rw [iI_clamp h (by omega), ← iI_0, iI_lt (by omega) (by omega)]
  omega
abbrev xT : Type := Nat → Option (Nat × Nat)
abbrev xG : Type := Nat → Nat → Value
def xup (g : xG) (a k : Nat) (v : Value) : xG := fun b j => if b = a ∧ j = k then v else g b j
theorem xup_s (g : xG) (a k : Nat) (v : Value) : xup g a k v a k = v := by simp [xup]
theorem xup_a {g : xG} {a k b j : Nat} {v : Value} (h : b ≠ a) : xup g a k v b j = g b j := by simp [xup, h]
theorem xup_k {g : xG} {a k b j : Nat} {v : Value} (h : j ≠ k) : xup g a k v b j = g b j := by simp [xup, h]
theorem xup_row (g : xG) (a k : Nat) (v : Value) : xup g a k v a = updV (g a) k v := by funext j; simp [xup, updV]
theorem xup_off {g : xG} {a k b : Nat} {v : Value} (h : b ≠ a) : xup g a k v b = g b := by funext j; simp [xup, h]
abbrev xtys (kA : Nat → ClassId) : List (ClassId × FieldType) := [(kA 0, .int), (kA 1, .boolean), (kA 2, .long), (kA 3, .object "java/lang/Object"), (kA 4, .array .int)]
def xat (D : va_G) (kA : Nat → ClassId) (a t n : Nat) (f : Nat → Value) (H : Heap) : Prop :=
  (t < 10000 ∧ ∃ r : vw_C, vwCl[t % 100]? = some r ∧ t_OB a (D.1 (t % 100)) r.2.2 (D.2 (t % 100)) H f) ∨ (10000 ≤ t ∧ ((t < 20000 ∧ H[a]? = some (arrV (kA (t % 100)) n f)) ∨ (20000 ≤ t ∧ n = 0 ∧ ∃ cell : Cell, H[a]? = some cell ∧ cell.cls = kA (t % 100) ∧ (∀ k, cell.vm ≠ .statics k) ∧ cell.vm.isStatics = false ∧ cell.slots.size.toInt32 = Int32.ofNat 0)))
theorem xat.kept {D : va_G} {kA : Nat → ClassId} {a t n : Nat} {f : Nat → Value} {H H1 : Heap} (h : xat D kA a t n f H) (hq : H1[a]? = H[a]?) : xat D kA a t n f H1 := by
  rcases h with ⟨h0, r, h1, h2⟩ | ⟨h0, ⟨h1, h2⟩ | ⟨h1, hn, cell, h2, h3⟩⟩
  · exact Or.inl ⟨h0, r, h1, h2.kept hq⟩
  · exact Or.inr ⟨h0, Or.inl ⟨h1, hq.trans h2⟩⟩
  · exact Or.inr ⟨h0, Or.inr ⟨h1, hn, cell, hq.trans h2, h3⟩⟩
theorem xat.lt {D : va_G} {kA : Nat → ClassId} {a t n : Nat} {f : Nat → Value} {H : Heap} (h : xat D kA a t n f H) : a < H.size := by
  rcases h with ⟨h0, r, h1, cell, h2, -⟩ | ⟨h0, ⟨h1, h2⟩ | ⟨h1, hn, cell, h2, h3⟩⟩
  · exact (Array.getElem?_eq_some_iff.mp h2).1
  · exact (Array.getElem?_eq_some_iff.mp h2).1
  · exact (Array.getElem?_eq_some_iff.mp h2).1
def xR (D : va_G) (kA : Nat → ClassId) (b0 : Nat) (S : xT) (g : xG) (H : Heap) : Prop := ∀ a t n, S a = some (t, n) → (b0 ≤ a ∨ 20000 ≤ t) ∧ xat D kA a t n (g a) H
def xok (S : xT) (c : Nat × Int × Int) (v : Value) : Prop := match c.1 with
  | 0 => ∃ z : Int, v = .int (iI z) ∧ c.2.1 ≤ z ∧ z ≤ c.2.2
  | 1 => ∃ a : Nat, v = .ref a ∧ S a = some (c.2.1.toNat, c.2.2.toNat)
  | 2 => v = .null ∨ ∃ (a n : Nat), v = .ref a ∧ S a = some (c.2.1.toNat, n)
  | 3 => ∃ y : Int64, v = .long y
  | 4 => ∃ z : Int, v = .int (iI z) ∧ 0 ≤ z ∧ z ≤ 2147483647 ∧ z % 16 ≤ 14
  | 7 => ∃ (a n : Nat), v = .ref a ∧ S a = some (c.2.1.toNat, n)
  | 8 => ∃ (a n : Nat), v = .ref a ∧ (S a = some (c.2.1.toNat, n) ∨ S a = some (20003, 0))
  | _ => True
def xLe (S S' : xT) : Prop := ∀ a q, S a = some q → S' a = some q
theorem xLe.rf {S : xT} : xLe S S := fun _ _ h => h
theorem xLe.tr {S1 S2 S3 : xT} (h : xLe S1 S2) (h2 : xLe S2 S3) : xLe S1 S3 := fun a q hq => h2 a q (h a q hq)
theorem xok.mono {S S' : xT} (h : xLe S S') {c : Nat × Int × Int} {v : Value} (hv : xok S c v) : xok S' c v := by
  obtain ⟨c0, c1, c2⟩ := c
  unfold xok at hv ⊢
  dsimp only at hv ⊢
  split at hv <;> try exact hv
  · obtain ⟨a, e, hs⟩ := hv; exact ⟨a, e, h _ _ hs⟩
  · rcases hv with e | ⟨a, n, e, hs⟩
    · exact Or.inl e
    · exact Or.inr ⟨a, n, e, h _ _ hs⟩
  · obtain ⟨a, n, e, hs⟩ := hv; exact ⟨a, n, e, h _ _ hs⟩
  · obtain ⟨a, n, e, hs⟩ := hv
    refine ⟨a, n, e, ?_⟩
    rcases hs with hs | hs
    · exact Or.inl (h _ _ hs)
    · exact Or.inr (h _ _ hs)
def xky (t k : Nat) : Nat × Nat := if t < 10000 then (t, k) else (t, 0)
def xM (L : List (Nat × Nat)) (S : xT) (g g' : xG) : Prop := ∀ a t n k, S a = some (t, n) → xky t k ∉ L → g' a k = g a k
theorem xM.rf {L : List (Nat × Nat)} {S : xT} {g : xG} : xM L S g g := fun _ _ _ _ _ _ => rfl
theorem xM.tr {L L' : List (Nat × Nat)} {S S' : xT} {g g' g'' : xG} (h : xM L S g g') (hS : xLe S S') (h2 : xM L' S' g' g'') (hL : ∀ q ∈ L', q ∈ L) : xM L S g g'' := fun a t n k hs hk => (h2 a t n k (hS _ _ hs) (fun q => hk (hL _ q))).trans (h a t n k hs hk)
theorem xM.up {L : List (Nat × Nat)} {S : xT} {g g' : xG} {a t n k : Nat} {v : Value} (h : xM L S g g') (hs : S a = some (t, n)) (hk : xky t k ∈ L) : xM L S g (xup g' a k v) := by
  intro b t' n' j hb hj
  by_cases e : b = a ∧ j = k
  · obtain ⟨rfl, rfl⟩ := e
    rw [hs] at hb
    cases hb
    exact absurd hk hj
  · show (if b = a ∧ j = k then v else g' b j) = g b j
    rw [if_neg e]
    exact h b t' n' j hb hj
