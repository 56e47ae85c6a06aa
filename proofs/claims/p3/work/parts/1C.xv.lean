def xv (g : xG) (a : Nat) (j : Int) : Int := match g a j.toNat with
  | .int z => z.toInt
  | _ => 0
theorem xv_e {g : xG} {a : Nat} {j z : Int} (h : g a j.toNat = .int (iI z)) (hz : -2147483648 ≤ z ∧ z ≤ 2147483647) : xv g a j = z := by
  unfold xv
  rw [h]
  exact iI_toInt hz.1 hz.2
theorem xv_of {g g1 : xG} {a : Nat} {j : Int} (h : g1 a j.toNat = g a j.toNat) : xv g1 a j = xv g a j := by
  unfold xv
  rw [h]
theorem xv_s {g g1 : xG} {a : Nat} {j z : Int} (hg : g1 = xup g a j.toNat (.int (iI z))) (hz : -2147483648 ≤ z ∧ z ≤ 2147483647) : xv g1 a j = z := xv_e (xs_s hg) hz
theorem xv_k {g g1 : xG} {a : Nat} {i j : Int} {v : Value} (hg : g1 = xup g a j.toNat v) (hi : 0 ≤ i) (hj : 0 ≤ j) (h : i ≠ j) : xv g1 a i = xv g a i := xv_of (xs_k hg (by omega))
theorem xv_a {g g1 : xG} {a b k : Nat} {v : Value} (hg : g1 = xup g a k v) (h : b ≠ a) : xv g1 b = xv g b := funext fun i => xv_of (xs_a hg h)
theorem xv_m {L : List (Nat × Nat)} {S : xT} {g g1 : xG} {a t n : Nat} (hm : xM L S g g1) (hs : S a = some (t, n)) (ht : 10000 ≤ t) (hL : (t, 0) ∉ L) : xv g1 a = xv g a := funext fun i => xv_of (hm a t n _ hs (by unfold xky; rw [if_neg (by omega)]; exact hL))
def xUp (f' f : Int → Int) (j z : Int) : Prop := f' j = z ∧ ∀ i, 0 ≤ i → i ≠ j → f' i = f i
theorem xUp.of {g g1 : xG} {a : Nat} {j z : Int} (hg : g1 = xup g a j.toNat (.int (iI z))) (hz : -2147483648 ≤ z ∧ z ≤ 2147483647) (hj : 0 ≤ j) : xUp (xv g1 a) (xv g a) j z := ⟨xv_s hg hz, fun _ hi h => xv_k hg hi hj h⟩
def xSame (f' f : Int → Int) : Prop := ∀ i, 0 ≤ i → f' i = f i
theorem xv_r {S : xT} {g : xG} {a t n : Nat} {lo hi : Int} (hW : xW S g) (hs : S a = some (t, n)) (ht : 10000 ≤ t) (hc : ∀ k, xsl t k = (0, lo, hi)) (hl : -2147483648 ≤ lo ∧ hi ≤ 2147483647) (j : Int) (h0 : 0 ≤ j) (hj : j < n) : lo ≤ xv g a j ∧ xv g a j ≤ hi := by
  have h := hW a t n hs j.toNat (Or.inr (by omega))
  rw [hc] at h
  obtain ⟨z, e, h1, h2⟩ := h
  change lo ≤ z at h1
  change z ≤ hi at h2
  rw [xv_e e (by omega)]
  exact ⟨h1, h2⟩
def xby (a k : Int) : Int := (((iI a).toUInt32 >>> ((iI k).toUInt32 &&& Int32.toUInt32 31)).toInt32 &&& iI 255).toInt
theorem xby_of {a k k' z1 z2 : Int} (hk : k = k') (e1 : ((iI a).toUInt32 >>> ((iI k).toUInt32 &&& Int32.toUInt32 31)).toInt32 = iI z1) (e2 : iI z1 &&& iI 255 = iI z2) (hz : 0 ≤ z2 ∧ z2 ≤ 255) : z2 = xby a k' := by
  subst hk
  unfold xby
  rw [e1, e2]
  exact (iI_toInt (by omega) (by omega)).symm
def xPut (f1 f : Int → Int) (n a : Int) : Prop := (∀ i, 0 ≤ i → i < n → f1 i = f i) ∧ f1 n = xby a 24 ∧ f1 (n + 1) = xby a 16 ∧ f1 (n + 1 + 1) = xby a 8 ∧ f1 (n + 1 + 1 + 1) = xby a 0
def xTc (f m : Int → Int) (k : Int) : Prop := ∀ i, 0 ≤ i → i < k → f i = m i
theorem xTc.mono {f m : Int → Int} {k k' : Int} (h : xTc f m k) (hk : k' ≤ k) : xTc f m k' := fun i q1 q2 => h i q1 (by omega)
theorem xTc.zero {f m : Int → Int} : xTc f m 0 := fun i q1 q2 => by omega
theorem xTc.put {f m f1 m1 : Int → Int} {k a : Int} (h : xTc f m k) (h1 : xPut f1 f k a) (h2 : xPut m1 m k a) : xTc f1 m1 (k + 4) := fun i q1 q2 => by
  obtain ⟨a0, a1, a2, a3, a4⟩ := h1
  obtain ⟨b0, b1, b2, b3, b4⟩ := h2
  by_cases e : i < k
  · rw [a0 i q1 e, b0 i q1 e]; exact h i q1 e
  · by_cases e0 : i = k
    · rw [e0, a1, b1]
    · by_cases e1 : i = k + 1
      · rw [e1, a2, b2]
      · by_cases e2 : i = k + 1 + 1
        · rw [e2, a3, b3]
        · have e3 : i = k + 1 + 1 + 1 := by omega
          rw [e3, a4, b4]
def xFd (f1 f : Int → Int) (n a b c d e : Int) : Prop := ∃ f2 f3 f4 f5 : Int → Int, xPut f2 f n a ∧ xPut f3 f2 (n + 4) b ∧ xPut f4 f3 (n + 4 + 4) c ∧ xPut f5 f4 (n + 4 + 4 + 4) d ∧ xPut f1 f5 (n + 4 + 4 + 4 + 4) e
def xFe (f1 f : Int → Int) (n a b c d e : Int) : Prop := (n ≤ 400 ∧ xFd f1 f n a b c d e) ∨ (400 < n ∧ f1 = f)
theorem xTc.feed {f m f1 m1 : Int → Int} {k a b c d e : Int} (h : xTc f m k) (h1 : xFe f1 f k a b c d e) (h2 : xFe m1 m k a b c d e) : xTc f1 m1 (if k ≤ 400 then k + 20 else k) := by
  rcases h1 with ⟨q, f2, f3, f4, f5, p1, p2, p3, p4, p5⟩ | ⟨q, rfl⟩
  · rcases h2 with ⟨q', m2, m3, m4, m5, r1, r2, r3, r4, r5⟩ | ⟨q', -⟩
    · rw [if_pos q, show k + 20 = k + 4 + 4 + 4 + 4 + 4 by omega]
      exact ((((h.put p1 r1).put p2 r2).put p3 r3).put p4 r4).put p5 r5
    · omega
  · rcases h2 with ⟨q', -⟩ | ⟨q', rfl⟩
    · omega
    · rw [if_neg (by omega)]; exact h
def xWk (f : Int → Int) (n : Int) : Prop := ∀ i, 0 ≤ i → i < n → f i < 4 ∨ f i = 255
theorem xWk.z {f : Int → Int} : xWk f 0 := fun i q1 q2 => by omega
theorem xWk.s {f : Int → Int} {n z : Int} (h : xWk f n) (e : f n = z) (hz : z < 4 ∨ z = 255) : xWk f (n + 1) := fun i q1 q2 => by
  by_cases q : i = n
  · rw [q, e]; exact hz
  · exact h i q1 (by omega)
theorem xWk.to {f : Int → Int} {n m : Int} (h : xWk f n) (hm : m ≤ n) : xWk f m := fun i q1 q2 => h i q1 (by omega)
theorem xTc.wk {f m : Int → Int} {k : Int} (h : xTc f m k) : xWk f k ↔ xWk m k := ⟨fun q i q1 q2 => by rw [← h i q1 q2]; exact q i q1 q2, fun q i q1 q2 => by rw [h i q1 q2]; exact q i q1 q2⟩
theorem xbeq {z1 z2 : Int} {A B : Prop} (h1 : z1 = 1 ↔ A) (h2 : z2 = 1 ↔ B) (h : A ↔ B) (q1 : 0 ≤ z1 ∧ z1 ≤ 1) (q2 : 0 ≤ z2 ∧ z2 ≤ 1) : z1 = z2 := by
  by_cases e : z1 = 1
  · rw [e, h2.mpr (h.mp (h1.mp e))]
  · have e2 : z2 ≠ 1 := fun q => e (h1.mpr (h.mpr (h2.mp q)))
    omega
