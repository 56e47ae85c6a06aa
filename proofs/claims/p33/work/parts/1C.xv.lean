def xv (g : xG) (a : Nat) (j : Int) : Int := match g a j.toNat with
  | .int z => z.toInt
  | _ => 0
theorem xv_e {g : xG} {a : Nat} {j z : Int} (h : g a j.toNat = .int (iI z)) (hz : -2147483648 ≤ z ∧ z ≤ 2147483647) : xv g a j = z := by
  unfold xv
  rw [h]
  exact iI_toInt hz.1 hz.2
theorem xv_of {g g1 : xG} {a : Nat} {j : Int} (h : g1 a j.toNat = g a j.toNat) : xv g1 a j = xv g a j := by
  unfold xv
  rw [h]
theorem xv_s {g g1 : xG} {a : Nat} {j z : Int} (hg : g1 = xup g a j.toNat (.int (iI z))) (hz : -2147483648 ≤ z ∧ z ≤ 2147483647) : xv g1 a j = z := xv_e (xs_s hg) hz
theorem xv_k {g g1 : xG} {a : Nat} {i j : Int} {v : Value} (hg : g1 = xup g a j.toNat v) (hi : 0 ≤ i) (hj : 0 ≤ j) (h : i ≠ j) : xv g1 a i = xv g a i := xv_of (xs_k hg (by omega))
theorem xv_a {g g1 : xG} {a b k : Nat} {v : Value} (hg : g1 = xup g a k v) (h : b ≠ a) : xv g1 b = xv g b := funext fun i => xv_of (xs_a hg h)
theorem xv_m {L : List (Nat × Nat)} {S : xT} {g g1 : xG} {a t n : Nat} (hm : xM L S g g1) (hs : S a = some (t, n)) (ht : 10000 ≤ t) (hL : (t, 0) ∉ L) : xv g1 a = xv g a := funext fun i => xv_of (hm a t n _ hs (by unfold xky; rw [if_neg (by omega)]; exact hL))
def xUp (f' f : Int → Int) (j z : Int) : Prop := f' j = z ∧ ∀ i, 0 ≤ i → i ≠ j → f' i = f i
theorem xUp.of {g g1 : xG} {a : Nat} {j z : Int} (hg : g1 = xup g a j.toNat (.int (iI z))) (hz : -2147483648 ≤ z ∧ z ≤ 2147483647) (hj : 0 ≤ j) : xUp (xv g1 a) (xv g a) j z := ⟨xv_s hg hz, fun _ hi h => xv_k hg hi hj h⟩
theorem xv_r {S : xT} {g : xG} {a t n : Nat} {lo hi : Int} (hW : xW S g) (hs : S a = some (t, n)) (ht : 10000 ≤ t) (hc : ∀ k, xsl t k = (0, lo, hi)) (hl : -2147483648 ≤ lo ∧ hi ≤ 2147483647) (j : Int) (h0 : 0 ≤ j) (hj : j < n) : lo ≤ xv g a j ∧ xv g a j ≤ hi := by
  have h := hW a t n hs j.toNat (Or.inr (by omega))
  rw [hc] at h
  obtain ⟨z, e, h1, h2⟩ := h
  change lo ≤ z at h1
  change z ≤ hi at h2
  rw [xv_e e (by omega)]
  exact ⟨h1, h2⟩
theorem xv_z {g g1 : xG} {q : Nat} (hg : g1 = xrow g q (fun _ => .int 0)) (i : Int) : xv g1 q i = 0 := by
  unfold xv
  rw [hg, xrow_s]
  rfl
theorem xv_n {S : xT} {g g1 : xG} {q a : Nat} {p : Nat × Nat} {f : Nat → Value} (hg : g1 = xrow g q f) (h : S a = some p) (hq : S q = none) : xv g1 a = xv g a := funext fun i => xv_of (by rw [hg, xrow_o (fun e => by rw [e, hq] at h; cases h)])
def xby (a k : Int) : Int := (((iI a).toUInt32 >>> ((iI k).toUInt32 &&& Int32.toUInt32 31)).toInt32 &&& iI 255).toInt
theorem xby_of {a k k' z1 z2 : Int} (hk : k = k') (e1 : ((iI a).toUInt32 >>> ((iI k).toUInt32 &&& Int32.toUInt32 31)).toInt32 = iI z1) (e2 : iI z1 &&& iI 255 = iI z2) (hz : 0 ≤ z2 ∧ z2 ≤ 255) : z2 = xby a k' := by
  subst hk
  unfold xby
  rw [e1, e2]
  exact (iI_toInt (by omega) (by omega)).symm
def xPut (f1 f : Int → Int) (n a : Int) : Prop := (∀ i, 0 ≤ i → i < n → f1 i = f i) ∧ f1 n = xby a 24 ∧ f1 (n + 1) = xby a 16 ∧ f1 (n + 1 + 1) = xby a 8 ∧ f1 (n + 1 + 1 + 1) = xby a 0
def xTc (f m : Int → Int) (k : Int) : Prop := ∀ i, 0 ≤ i → i < k → f i = m i
theorem xTc.mono {f m : Int → Int} {k k' : Int} (h : xTc f m k) (hk : k' ≤ k) : xTc f m k' := fun i q1 q2 => h i q1 (by omega)
theorem xTc.zero {f m : Int → Int} : xTc f m 0 := fun i q1 q2 => by omega
theorem xTc.put {f m f1 m1 : Int → Int} {k a : Int} (h : xTc f m k) (h1 : xPut f1 f k a) (h2 : xPut m1 m k a) : xTc f1 m1 (k + 4) := fun i q1 q2 => by
  obtain ⟨a0, a1, a2, a3, a4⟩ := h1
  obtain ⟨b0, b1, b2, b3, b4⟩ := h2
  by_cases e : i < k
  · rw [a0 i q1 e, b0 i q1 e]; exact h i q1 e
  · by_cases e0 : i = k
    · rw [e0, a1, b1]
    · by_cases e1 : i = k + 1
      · rw [e1, a2, b2]
      · by_cases e2 : i = k + 1 + 1
        · rw [e2, a3, b3]
        · have e3 : i = k + 1 + 1 + 1 := by omega
          rw [e3, a4, b4]
def xFd (f1 f : Int → Int) (n a b c d e : Int) : Prop := ∃ f2 f3 f4 f5 : Int → Int, xPut f2 f n a ∧ xPut f3 f2 (n + 4) b ∧ xPut f4 f3 (n + 4 + 4) c ∧ xPut f5 f4 (n + 4 + 4 + 4) d ∧ xPut f1 f5 (n + 4 + 4 + 4 + 4) e
def xFe (f1 f : Int → Int) (n a b c d e : Int) : Prop := (n ≤ 400 ∧ xFd f1 f n a b c d e) ∨ (400 < n ∧ f1 = f)
theorem xTc.feed {f m f1 m1 : Int → Int} {k a b c d e : Int} (h : xTc f m k) (h1 : xFe f1 f k a b c d e) (h2 : xFe m1 m k a b c d e) : xTc f1 m1 (if k ≤ 400 then k + 20 else k) := by
  rcases h1 with ⟨q, f2, f3, f4, f5, p1, p2, p3, p4, p5⟩ | ⟨q, rfl⟩
  · rcases h2 with ⟨q', m2, m3, m4, m5, r1, r2, r3, r4, r5⟩ | ⟨q', -⟩
    · rw [if_pos q, show k + 20 = k + 4 + 4 + 4 + 4 + 4 by omega]
      exact ((((h.put p1 r1).put p2 r2).put p3 r3).put p4 r4).put p5 r5
    · omega
  · rcases h2 with ⟨q', -⟩ | ⟨q', rfl⟩
    · omega
    · rw [if_neg (by omega)]; exact h
def xWk (f : Int → Int) (n : Int) : Prop := ∀ i, 0 ≤ i → i < n → f i < 4 ∨ f i = 255
theorem xWk.z {f : Int → Int} : xWk f 0 := fun i q1 q2 => by omega
theorem xWk.s {f : Int → Int} {n z : Int} (h : xWk f n) (e : f n = z) (hz : z < 4 ∨ z = 255) : xWk f (n + 1) := fun i q1 q2 => by
  by_cases q : i = n
  · rw [q, e]; exact hz
  · exact h i q1 (by omega)
theorem xWk.to {f : Int → Int} {n m : Int} (h : xWk f n) (hm : m ≤ n) : xWk f m := fun i q1 q2 => h i q1 (by omega)
theorem xTc.wk {f m : Int → Int} {k : Int} (h : xTc f m k) : xWk f k ↔ xWk m k := ⟨fun q i q1 q2 => by rw [← h i q1 q2]; exact q i q1 q2, fun q i q1 q2 => by rw [h i q1 q2]; exact q i q1 q2⟩
theorem xbeq {z1 z2 : Int} {A B : Prop} (h1 : z1 = 1 ↔ A) (h2 : z2 = 1 ↔ B) (h : A ↔ B) (q1 : 0 ≤ z1 ∧ z1 ≤ 1) (q2 : 0 ≤ z2 ∧ z2 ≤ 1) : z1 = z2 := by
  by_cases e : z1 = 1
  · rw [e, h2.mpr (h.mp (h1.mp e))]
  · have e2 : z2 ≠ 1 := fun q => e (h1.mpr (h.mpr (h2.mp q)))
    omega
def xsyN (f : Int → Int) (n : Int) : Nat → Int
  | 0 => if 0 < n then (if f 0 = 255 then 0 else f 0) else 3
  | k + 1 => if (k : Int) + 1 < n then (if f ((k : Int) + 1) = 255 then xsyN f n k else f ((k : Int) + 1)) else 3
def xsy (f : Int → Int) (n d : Int) : Int := xsyN f n d.toNat
def xah (f : Int → Int) (n d : Int) : Int := if d = 0 then 0 else xsy f n (d - 1)
theorem xsy_s {f : Int → Int} {n d : Int} (hd : 0 ≤ d) : xsy f n d = if d < n then (if f d = 255 then xah f n d else f d) else 3 := by
  by_cases e : d = 0
  · subst e; rfl
  · obtain ⟨k, hk⟩ : ∃ k : Nat, d = (k : Int) + 1 := ⟨(d - 1).toNat, by omega⟩
    subst hk
    have e1 : ((k : Int) + 1).toNat = k + 1 := by omega
    have e2 : ((k : Int) + 1 - 1).toNat = k := by omega
    unfold xah xsy
    rw [if_neg e, e1, e2]
    rfl
theorem xsy_a {f : Int → Int} {n d z : Int} (hd : 0 ≤ d) (h : d < n) (e : f d = z) (hz : z ≠ 255) : z = xsy f n d := by
  rw [xsy_s hd, if_pos h, e, if_neg hz]
theorem xsy_b {f : Int → Int} {n d z a : Int} (hd : 0 ≤ d) (h : d < n) (e : f d = z) (hz : z = 255) (ha : a = xah f n d) : a = xsy f n d := by
  rw [xsy_s hd, if_pos h, e, if_pos hz]; exact ha
theorem xsy_c {f : Int → Int} {n d : Int} (hd : 0 ≤ d) (h : n ≤ d) : 3 = xsy f n d := by
  rw [xsy_s hd, if_neg (by omega)]
theorem xah_s {f : Int → Int} {n d v : Int} (hd : 0 ≤ d) (h : v = xsy f n d) : v = xah f n (d + 1) := by
  unfold xah
  rw [if_neg (by omega), show d + 1 - 1 = d by omega]; exact h
theorem xah_0' {f : Int → Int} {n d : Int} (h : d = 0) : 0 = xah f n d := by unfold xah; rw [if_pos h]
theorem xah_p {f : Int → Int} {n d v : Int} (h : d ≠ 0) (e : v = xsy f n (d - 1)) : v = xah f n d := by unfold xah; rw [if_neg h]; exact e
theorem xah_0 {f : Int → Int} {n : Int} : 0 = xah f n 0 := rfl
def xSky (s f : Int → Int) (n d : Int) : Prop := ∀ i, 0 ≤ i → i < d → s i = xsy f n i
theorem xSky.z {s f : Int → Int} {n : Int} : xSky s f n 0 := fun i q1 q2 => by omega
theorem xSky.s {s s' f : Int → Int} {n d v : Int} (h : xSky s f n d) (hu : xUp s' s d v) (hv : v = xsy f n d) : xSky s' f n (d + 1) := fun i q1 q2 => by
  by_cases e : i = d
  · rw [e, hu.1]; exact hv
  · rw [hu.2 i q1 e]; exact h i q1 (by omega)
theorem xSky.to {s f : Int → Int} {n d d' : Int} (h : xSky s f n d) (hd : d' ≤ d) : xSky s f n d' := fun i q1 q2 => h i q1 (by omega)
theorem xsyN_cg {f f' : Int → Int} {n : Int} (h : ∀ i, 0 ≤ i → i < n → f i = f' i) (k : Nat) : xsyN f n k = xsyN f' n k := by
  induction k with
  | zero =>
    unfold xsyN
    by_cases e : 0 < n
    · rw [if_pos e, if_pos e, h 0 (by omega) e]
    · rw [if_neg e, if_neg e]
  | succ k ih =>
    unfold xsyN
    by_cases e : (k : Int) + 1 < n
    · rw [if_pos e, if_pos e, h _ (by omega) e, ih]
    · rw [if_neg e, if_neg e]
def xSm (s m : Int → Int) (n : Int) : Prop := ∀ i, 0 ≤ i → i < 400 → s i = if n = 0 then 0 else if i < n then m i else 3
theorem xSm.zero {s m : Int → Int} (h : ∀ i, s i = 0) : xSm s m 0 := fun i _ _ => by rw [h i, if_pos rfl]
theorem xSm.of {s m f f' : Int → Int} {n : Int} (hn : 1 ≤ n) (h1 : xSky s f n 400) (h2 : xSky m f' n n) (hf : xTc f f' n) : xSm s m n := fun i q1 q2 => by
  rw [if_neg (by omega), h1 i q1 q2]
  by_cases e : i < n
  · rw [if_pos e, h2 i q1 e]
    exact xsyN_cg hf _
  · rw [if_neg e, xsy_s q1, if_neg e]
def xfl (F N G : Int) : Nat → Int32
  | 0 => iI F
  | k + 1 => xfl F N G k - iI (N + G * (k : Int))
def xpl (P L : Int) : Nat → Int32
  | 0 => iI P
  | k + 1 => xpl P L k - iI L
theorem xfl_s {F N G z k z' : Int} (h : iI z = xfl F N G k.toNat) (hk : 0 ≤ k) (e : iI (z - (N + G * k)) = iI z') : iI z' = xfl F N G (k + 1).toNat := by
  rw [show (k + 1).toNat = k.toNat + 1 by omega]
  show iI z' = xfl F N G k.toNat - iI (N + G * ((k.toNat : Nat) : Int))
  rw [← h, show ((k.toNat : Nat) : Int) = k by omega, iI_sub, e]
theorem xpl_s {P L z k z' : Int} (h : iI z = xpl P L k.toNat) (hk : 0 ≤ k) (e : iI (z - L) = iI z') : iI z' = xpl P L (k + 1).toNat := by
  rw [show (k + 1).toNat = k.toNat + 1 by omega]
  show iI z' = xpl P L k.toNat - iI L
  rw [← h, iI_sub, e]
def xhow (f : Int → Int) (F N G P L k : Int) : Int := if f (2 * k + 1) ≤ f (2 * k) then 0 else if (xfl F N G (k + 1).toNat).toInt < 0 then 1 else if (xpl P L (k + 1).toNat).toInt < 0 then 2 else -1
theorem xhow_0 {f : Int → Int} {F N G P L k a b : Int} (e1 : f (2 * k) = a) (e2 : f (2 * k + 1) = b) (h : b ≤ a) : xhow f F N G P L k = 0 := by
  unfold xhow
  rw [e1, e2, if_pos h]
theorem xhow_1 {f : Int → Int} {F N G P L k a b z : Int} (e1 : f (2 * k) = a) (e2 : f (2 * k + 1) = b) (h : a < b) (hz : iI z = xfl F N G (k + 1).toNat) (rz : -2147483648 ≤ z ∧ z ≤ 2147483647) (h1 : z < 0) : xhow f F N G P L k = 1 := by
  unfold xhow
  rw [e1, e2, if_neg (by omega), ← hz, iI_toInt rz.1 rz.2, if_pos h1]
theorem xhow_2 {f : Int → Int} {F N G P L k a b z y : Int} (e1 : f (2 * k) = a) (e2 : f (2 * k + 1) = b) (h : a < b) (hz : iI z = xfl F N G (k + 1).toNat) (rz : -2147483648 ≤ z ∧ z ≤ 2147483647) (h1 : 0 ≤ z) (hy : iI y = xpl P L (k + 1).toNat) (ry : -2147483648 ≤ y ∧ y ≤ 2147483647) (h2 : y < 0) : xhow f F N G P L k = 2 := by
  unfold xhow
  rw [e1, e2, if_neg (by omega), ← hz, iI_toInt rz.1 rz.2, if_neg (by omega), ← hy, iI_toInt ry.1 ry.2, if_pos h2]
theorem xhow_n {f : Int → Int} {F N G P L k a b z y : Int} (e1 : f (2 * k) = a) (e2 : f (2 * k + 1) = b) (h : a < b) (hz : iI z = xfl F N G (k + 1).toNat) (rz : -2147483648 ≤ z ∧ z ≤ 2147483647) (h1 : 0 ≤ z) (hy : iI y = xpl P L (k + 1).toNat) (ry : -2147483648 ≤ y ∧ y ≤ 2147483647) (h2 : 0 ≤ y) : xhow f F N G P L k = -1 := by
  unfold xhow
  rw [e1, e2, if_neg (by omega), ← hz, iI_toInt rz.1 rz.2, if_neg (by omega), ← hy, iI_toInt ry.1 ry.2, if_neg (by omega)]
def xNs (f : Int → Int) (F N G P L k : Int) : Prop := ∀ i, 0 ≤ i → i < k → xhow f F N G P L i = -1
theorem xNs.z {f : Int → Int} {F N G P L : Int} : xNs f F N G P L 0 := fun i q1 q2 => by omega
theorem xNs.s {f : Int → Int} {F N G P L k : Int} (h : xNs f F N G P L k) (e : xhow f F N G P L k = -1) : xNs f F N G P L (k + 1) := fun i q1 q2 => by
  by_cases q : i = k
  · rw [q]; exact e
  · exact h i q1 (by omega)
def xStk (f : Int → Int) (F N G P L m r e p e0 p0 : Int) : Prop := (r = -1 ∧ e = e0 ∧ p = p0 ∧ xNs f F N G P L m) ∨ (0 ≤ r ∧ r < m ∧ xNs f F N G P L r ∧ xhow f F N G P L r ≠ -1 ∧ e = xhow f F N G P L r ∧ p = if xhow f F N G P L r = 2 then f (2 * r) else f (2 * r + 1))
theorem xStk.hit {f : Int → Int} {F N G P L m k w p e0 p0 : Int} (h : xNs f F N G P L k) (hk : 0 ≤ k ∧ k < m) (e : xhow f F N G P L k = w) (hw : w ≠ -1) (hp : p = if w = 2 then f (2 * k) else f (2 * k + 1)) : xStk f F N G P L m k w p e0 p0 :=
  Or.inr ⟨hk.1, hk.2, h, by rw [e]; exact hw, e.symm, by rw [e]; exact hp⟩
def xVal (F N G P L n : Int) : Prop := n % 2 = 0 ∧ 2 ≤ n ∧ n ≤ 100 ∧ 0 ≤ F ∧ F ≤ 100000 ∧ 0 ≤ N ∧ N ≤ 100000 ∧ 0 ≤ G ∧ G ≤ 100000 ∧ 0 ≤ P ∧ P ≤ 100000 ∧ 0 ≤ L ∧ L ≤ 100000
def xSkr (f : Int → Int) (F N G P L n r e p e0 p0 : Int) : Prop := (xVal F N G P L n ∧ xStk f F N G P L (n / 2) r e p e0 p0) ∨ (¬ xVal F N G P L n ∧ r = -1 ∧ e = e0 ∧ p = p0)
theorem xhow_cg {f f' : Int → Int} {F N G P L n k : Int} (h : xTc f f' n) (hk : 0 ≤ k ∧ 2 * k + 1 < n) : xhow f F N G P L k = xhow f' F N G P L k := by
  unfold xhow
  rw [h (2 * k + 1) (by omega) (by omega), h (2 * k) (by omega) (by omega)]
theorem xSkr.det {f f' : Int → Int} {F N G P L n r e p r' e' p' e0 p0 : Int} (h : xTc f f' n) (h1 : xSkr f F N G P L n r e p e0 p0) (h2 : xSkr f' F N G P L n r' e' p' e0 p0) : r = r' ∧ e = e' ∧ p = p' := by
  rcases h1 with ⟨v, h1⟩ | ⟨v, h1, h1', h1''⟩
  · rcases h2 with ⟨-, h2⟩ | ⟨v', -⟩
    · have hn : 2 ≤ n ∧ n ≤ 100 ∧ n % 2 = 0 := ⟨v.2.1, v.2.2.1, v.1⟩
      have cg : ∀ k, 0 ≤ k → k < n / 2 → xhow f F N G P L k = xhow f' F N G P L k := fun k q1 q2 => xhow_cg h ⟨q1, by omega⟩
      rcases h1 with ⟨a1, a2, a3, a4⟩ | ⟨a1, a2, a3, a4, a5, a6⟩
      · rcases h2 with ⟨b1, b2, b3, b4⟩ | ⟨b1, b2, b3, b4, b5, b6⟩
        · exact ⟨a1.trans b1.symm, a2.trans b2.symm, a3.trans b3.symm⟩
        · exact absurd (by rw [← cg r' b1 b2]; exact a4 r' b1 b2) b4
      · rcases h2 with ⟨b1, b2, b3, b4⟩ | ⟨b1, b2, b3, b4, b5, b6⟩
        · exact absurd (by rw [cg r a1 a2]; exact b4 r a1 a2) a4
        · have e : r = r' := by
            rcases Int.lt_trichotomy r r' with q | q | q
            · exact absurd (by rw [cg r a1 a2]; exact b3 r a1 q) a4
            · exact q
            · exact absurd (by rw [← cg r' b1 b2]; exact a3 r' b1 q) b4
          subst e
          have c := cg r a1 a2
          refine ⟨rfl, by rw [a5, b5, c], ?_⟩
          rw [a6, b6, c, h (2 * r) (by omega) (by omega), h (2 * r + 1) (by omega) (by omega)]
    · exact absurd v v'
  · rcases h2 with ⟨v', -⟩ | ⟨-, h2, h2', h2''⟩
    · exact absurd v' v
    · exact ⟨h1.trans h2.symm, h1'.trans h2'.symm, h1''.trans h2''.symm⟩
def xFr (T : Nat) (S : xT) (g g1 : xG) (w : Nat) : Prop := ∀ p n k, S p = some (T, n) → p ≠ w → g1 p k = g p k
theorem xFr.rf {T : Nat} {S : xT} {g : xG} {w : Nat} : xFr T S g g w := fun _ _ _ _ _ => rfl
theorem xFr.w {T : Nat} {S : xT} {g g' g1 : xG} {w k : Nat} {v : Value} (h : xFr T S g g' w) (hg : g1 = xup g' w k v) : xFr T S g g1 w := fun p n j hp hn => (xs_a hg hn).trans (h p n j hp hn)
theorem xFr.t {T : Nat} {S : xT} {g g' g1 : xG} {w a k : Nat} {q : Nat × Nat} {v : Value} (h : xFr T S g g' w) (hg : g1 = xup g' a k v) (hs : S a = some q) (ht : q.1 ≠ T) : xFr T S g g1 w := fun p n j hp hn => (xs_a hg (xne hp hs (fun e => ht (by rw [← e])))).trans (h p n j hp hn)
theorem xky_1 (t k : Nat) : (xky t k).1 = t := by unfold xky; split <;> rfl
theorem xFr.m {T : Nat} {S : xT} {g g' g1 : xG} {w : Nat} {L : List (Nat × Nat)} (h : xFr T S g g' w) (hm : xM L S g' g1) (hL : ∀ x ∈ L, x.1 ≠ T) : xFr T S g g1 w := fun p n j hp hn => (hm p T n j hp (fun q => hL _ q (xky_1 T j))).trans (h p n j hp hn)
theorem xFr.tr {T : Nat} {S : xT} {g g' g1 : xG} {w : Nat} (h : xFr T S g g' w) (h2 : xFr T S g' g1 w) : xFr T S g g1 w := fun p n j hp hn => (h2 p n j hp hn).trans (h p n j hp hn)
theorem xv_eqn {g g1 : xG} {a : Nat} (h : ∀ k, g1 a k = g a k) : xv g1 a = xv g a := funext fun i => xv_of (h _)
theorem xFr.v {T : Nat} {S : xT} {g g1 : xG} {w p n : Nat} (h : xFr T S g g1 w) (hp : S p = some (T, n)) (hn : p ≠ w) : xv g1 p = xv g p := xv_eqn fun k => h p n k hp hn
def xLt (S S1 : xT) : Prop := ∀ a t n, S a = some (t, n) → ¬ (5000 ≤ t ∧ t < 5100) → S1 a = some (t, n)
theorem xLt.rf {S : xT} : xLt S S := fun _ _ _ h _ => h
theorem xLt.le {S S1 : xT} (h : xLe S S1) : xLt S S1 := fun a t n q _ => h a _ q
theorem xLt.tr {S S1 S2 : xT} (h : xLt S S1) (h2 : xLt S1 S2) : xLt S S2 := fun a t n q r => h2 a t n (h a t n q r) r
theorem xLt.seal {S S1 : xT} {q r : Nat} {p : Nat × Nat} (hq : S q = some (r, 0)) (hS : S1 = xset S q p) (hr : 5000 ≤ r ∧ r < 5100) : xLt S S1 := fun a t n h ht => by
  have : a ≠ q := fun e => by rw [e, hq] at h; cases h; exact ht hr
  rw [hS, xset_o this]; exact h
def xGr (S : xT) (g : xG) (q tr N M : Nat) : Prop := ∀ j : Nat, j < N → ∃ r : Nat, g q j = .ref r ∧ S r = some (tr, M) ∧ (∀ k, g r k = .int 0) ∧ ∀ j' : Nat, j' < N → g q j' = .ref r → j' = j
theorem xGr.cg {S : xT} {g g1 : xG} {q tr N M : Nat} (h : xGr S g q tr N M) (hq : ∀ k, g1 q k = g q k) (hr : ∀ r k, S r = some (tr, M) → g1 r k = g r k) : xGr S g1 q tr N M := fun j hj => by
  obtain ⟨r, e1, e2, e3, e4⟩ := h j hj
  exact ⟨r, (hq j).trans e1, e2, fun k => (hr r k e2).trans (e3 k), fun j' q1 q2 => e4 j' q1 ((hq j').symm.trans q2)⟩
theorem xGr.u {S0 S : xT} {g g1 : xG} {q tr N M tg n' a k t n : Nat} {v : Value} (h : xGr S0 g q tr N M) (hlt : xLt S0 S) (hq : S q = some (tg, n')) (htr : 10000 ≤ tr) (hg : g1 = xup g a k v) (ha : S a = some (t, n)) (h1 : t ≠ tr) (h2 : t ≠ tg) : xGr S0 g1 q tr N M :=
  h.cg (fun _ => xs_a hg (xne hq ha (fun e => h2 (congrArg Prod.fst e).symm))) (fun r _ hr => xs_a hg (xne (hlt r tr M hr (by omega)) ha (fun e => h1 (congrArg Prod.fst e).symm)))
theorem xGr.m {S0 S : xT} {g g1 : xG} {q tr N M tg n' : Nat} {L : List (Nat × Nat)} (h : xGr S0 g q tr N M) (hlt : xLt S0 S) (hq : S q = some (tg, n')) (ht : 10000 ≤ tr ∧ 10000 ≤ tg) (hm : xM L S g g1) (h1 : (tr, 0) ∉ L) (h2 : (tg, 0) ∉ L) : xGr S0 g1 q tr N M :=
  h.cg (fun k => hm q tg n' k hq (by unfold xky; rw [if_neg (by omega)]; exact h2)) (fun r k hr => hm r tr M k (hlt r tr M hr (by omega)) (by unfold xky; rw [if_neg (by omega)]; exact h1))
theorem xGr.n {S0 S : xT} {g g1 : xG} {q tr N M tg n' c : Nat} {f : Nat → Value} (h : xGr S0 g q tr N M) (hlt : xLt S0 S) (hq : S q = some (tg, n')) (htr : 10000 ≤ tr) (hg : g1 = xrow g c f) (hc : S c = none) : xGr S0 g1 q tr N M :=
  h.cg (fun _ => by rw [hg, xrow_o (fun e => by rw [e, hc] at hq; cases hq)]) (fun r _ hr => by rw [hg, xrow_o (fun e => by have := hlt r tr M hr (by omega); rw [e, hc] at this; cases this)])
theorem xGr.s {S0 S : xT} {g : xG} {q tr N M : Nat} (h : xGr S0 g q tr N M) (hlt : xLt S0 S) (htr : 10000 ≤ tr) : xGr S g q tr N M := fun j hj => by
  obtain ⟨r, e1, e2, e3, e4⟩ := h j hj
  exact ⟨r, e1, hlt r tr M e2 (by omega), e3, e4⟩
theorem x4all {P : Int → Prop} (h0 : P 0) (h1 : P 1) (h2 : P 2) (h3 : P 3) : ∀ i : Int, 0 ≤ i → i < 4 → P i := fun i q1 q2 => by
  rcases (show i = 0 ∨ i = 1 ∨ i = 2 ∨ i = 3 by omega) with e | e | e | e <;> rw [e] <;> assumption
theorem x6all {P : Int → Prop} (h0 : P 0) (h1 : P 1) (h2 : P 2) (h3 : P 3) (h4 : P 4) (h5 : P 5) : ∀ i : Int, 0 ≤ i → i < 6 → P i := fun i q1 q2 => by
  rcases (show i = 0 ∨ i = 1 ∨ i = 2 ∨ i = 3 ∨ i = 4 ∨ i = 5 by omega) with e | e | e | e | e | e <;> rw [e] <;> assumption
theorem xTc.all {f m : Int → Int} {n v : Int} (h1 : ∀ i, 0 ≤ i → i < n → f i = v) (h2 : ∀ i, 0 ≤ i → i < n → m i = v) : xTc f m n := fun i q1 q2 => (h1 i q1 q2).trans (h2 i q1 q2).symm
def xWn (S : xT) (g : xG) (wg mw : Nat) : Prop := ∀ c : Int, 0 ≤ c → c < 10 → ∃ r : Nat, g wg c.toNat = .ref r ∧ S r = some (11200, 4) ∧ (∀ p : Int, 0 ≤ p → p < 4 → xv g r p = xv g mw (4 * c + p)) ∧ ∀ c' : Int, 0 ≤ c' → c' < 10 → g wg c'.toNat = .ref r → c' = c
theorem xWn.of {S0 S : xT} {g : xG} {wg mw : Nat} (h : xGr S0 g wg 11200 10 4) (hlt : xLt S0 S) (hz : ∀ i, xv g mw i = 0) : xWn S g wg mw := fun c q1 q2 => by
  obtain ⟨r, e1, e2, e3, e4⟩ := h c.toNat (by omega)
  refine ⟨r, e1, hlt r _ _ e2 (by decide), fun p _ _ => ?_, fun c' q3 q4 q5 => ?_⟩
  · rw [hz]; unfold xv; rw [e3]; rfl
  · have := e4 c'.toNat (by omega) q5
    omega
theorem xWn.m {S S1 : xT} {g g1 : xG} {wg mw : Nat} {L : List (Nat × Nat)} (h : xWn S g wg mw) (hw : S wg = some (11304, 10)) (hmw : S mw = some (14900, 40)) (hm : xM L S g g1) (hle : xLe S S1) (hL : (11304, 0) ∉ L ∧ (11200, 0) ∉ L ∧ (14900, 0) ∉ L) : xWn S1 g1 wg mw := fun c q1 q2 => by
  obtain ⟨r, e1, e2, e3, e4⟩ := h c q1 q2
  have hg : ∀ k, g1 wg k = g wg k := fun k => hm wg _ _ k hw (by unfold xky; rw [if_neg (by decide)]; exact hL.1)
  refine ⟨r, (hg _).trans e1, hle r _ e2, fun p q3 q4 => ?_, fun c' q3 q4 q5 => e4 c' q3 q4 ((hg _).symm.trans q5)⟩
  rw [xv_m hm e2 (by decide) hL.2.1, xv_m hm hmw (by decide) hL.2.2]
  exact e3 p q3 q4
theorem xWn.same {S : xT} {g0 g2 : xG} {wg mw : Nat} (h : xWn S g0 wg mw) (hg : ∀ k, g2 wg k = g0 wg k) (hr : ∀ r n', S r = some (11200, n') → xv g2 r = xv g0 r) (hm : xv g2 mw = xv g0 mw) : xWn S g2 wg mw := fun c q1 q2 => by
  obtain ⟨r, e1, e2, e3, e4⟩ := h c q1 q2
  refine ⟨r, (hg _).trans e1, e2, fun p q3 q4 => ?_, fun c' q3 q4 q5 => e4 c' q3 q4 ((hg _).symm.trans q5)⟩
  rw [hr r 4 e2, hm]; exact e3 p q3 q4
theorem xWn.up {S : xT} {g0 g1 g2 : xG} {wg mw w : Nat} {c p n : Int} (h : xWn S g0 wg mw) (hc : 0 ≤ c ∧ c < 10) (hp : 0 ≤ p ∧ p < 4) (e : g0 wg c.toNat = .ref w) (hfr : xFr 11200 S g0 g1 w) (hu : xUp (xv g1 w) (xv g0 w) p n) (hg : ∀ k, g2 wg k = g0 wg k) (hrows : ∀ r n', S r = some (11200, n') → xv g2 r = xv g1 r) (hm : xUp (xv g2 mw) (xv g0 mw) (4 * c + p) n) : xWn S g2 wg mw := fun c' q1 q2 => by
  obtain ⟨r, e1, e2, e3, e4⟩ := h c' q1 q2
  refine ⟨r, (hg _).trans e1, e2, fun p' q3 q4 => ?_, fun c'' q5 q6 q7 => e4 c'' q5 q6 ((hg _).symm.trans q7)⟩
  rw [hrows r 4 e2]
  by_cases ec : c' = c
  · subst ec
    have er : r = w := by have := e1.symm.trans e; cases this; rfl
    subst er
    by_cases ep : p' = p
    · rw [ep, hu.1, hm.1]
    · rw [hu.2 p' q3 ep, hm.2 _ (by omega) (by omega)]; exact e3 p' q3 q4
  · have er : r ≠ w := fun q => ec (e4 c hc.1 hc.2 (by rw [q]; exact e)).symm
    rw [hfr.v e2 er, hm.2 _ (by omega) (by omega)]; exact e3 p' q3 q4
def xTb (f' f h' h : Int → Int) (r s i v : Int) : Prop := (r = 1 ∧ s = 0 ∧ xUp f' f i v ∧ h' = h) ∨ (r = 1 ∧ s ≠ 0 ∧ f' = f ∧ xUp h' h i v) ∨ (r ≠ 1 ∧ f' = f ∧ h' = h)
theorem xTc.up {f m f' m' : Int → Int} {k i v : Int} (h : xTc f m k) (h1 : xUp f' f i v) (h2 : xUp m' m i v) : xTc f' m' k := fun j q1 q2 => by
  by_cases e : j = i
  · rw [e, h1.1, h2.1]
  · rw [h1.2 j q1 e, h2.2 j q1 e]; exact h j q1 q2
theorem xTb.tc {f m f' m' h k h' k' : Int → Int} {r r' s i v : Int} (hf : xTc f m 4) (hh : xTc h k 6) (h1 : xTb f' f h' h r s i v) (h2 : xTb m' m k' k r' s i v) (e : r = r') : xTc f' m' 4 ∧ xTc h' k' 6 := by
  subst e
  rcases h1 with ⟨a, b, c, d⟩ | ⟨a, b, c, d⟩ | ⟨a, c, d⟩ <;> rcases h2 with ⟨a', b', c', d'⟩ | ⟨a', b', c', d'⟩ | ⟨a', c', d'⟩ <;> first | exact absurd b b' | exact absurd b' b | exact absurd a a' | exact absurd a' a | skip
  · rw [d, d']; exact ⟨hf.up c c', hh⟩
  · rw [c, c']; exact ⟨hf, hh.up d d'⟩
  · rw [c, c', d, d']; exact ⟨hf, hh⟩
def xas (a b c : Int) : Int := a * b / 100 * c / 100
def xAv (c p w h : Int) : Prop := 0 ≤ c ∧ c ≤ 9 ∧ 0 ≤ p ∧ p ≤ 3 ∧ 0 ≤ w ∧ w ≤ 3 ∧ 0 ≤ h ∧ h ≤ 5