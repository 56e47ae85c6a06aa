
def xCl (G M : Int → Int) (s b c x d : Int) : Prop := d = c ∨ xFt G M s b c x d ∨ xFt G M s x d b c
def xCw (G M : Int → Int) (s b c x k : Int) (y : Int64) : Prop := ∀ i : Nat, i < 64 → (xbt y i = true ↔ ∃ d : Int, 0 ≤ d ∧ d < k ∧ (i : Int) = 8 * x + d ∧ x ≠ b ∧ xCl G M s b c x d)
theorem xCw.z {G M : Int → Int} {s b c x : Int} : xCw G M s b c x 0 (iL 0) := fun i _ => ⟨fun h => (by rw [xbt_0] at h; cases h), fun ⟨d, q1, q2, _⟩ => by omega⟩
theorem xCw.miss {G M : Int → Int} {s b c x k : Int} {y : Int64} (h : xCw G M s b c x k y) (hk : 0 ≤ k) (hn : ¬ xCl G M s b c x k) : xCw G M s b c x (k + 1) y := fun i hi => by
  rw [h i hi]
  refine ⟨fun ⟨d, a1, a2, a3⟩ => ⟨d, a1, by omega, a3⟩, fun ⟨d, a1, a2, a3, a4, a5⟩ => ⟨d, a1, ?_, a3, a4, a5⟩⟩
  by_cases e : d = k
  · rw [e] at a5; exact absurd a5 hn
  · omega
theorem xCw.hit {G M : Int → Int} {s b c x k a : Int} {y : Int64} (h : xCw G M s b c x k y) (hk : 0 ≤ k ∧ k < 8) (hx : 0 ≤ x ∧ x < 8) (hb : x ≠ b) (hc : xCl G M s b c x k) (ha : a = 8 * x + k) : xCw G M s b c x (k + 1) (y ||| (iL 1 <<< ((iI a).toInt64 &&& 63))) := fun i hi => by
  have hs := xbt_shl ⟨a.toNat, by omega⟩ ⟨i, hi⟩
  have ea : (((⟨a.toNat, by omega⟩ : Fin 64).val : Nat) : Int) = a := by show ((a.toNat : Nat) : Int) = a; omega
  rw [ea] at hs
  rw [xbt_or, show xbt (iL 1 <<< ((iI a).toInt64 &&& 63)) i = decide (i = a.toNat) from hs, Bool.or_eq_true, h i hi, decide_eq_true_eq]
  constructor
  · rintro (⟨d, a1, a2, a3⟩ | e)
    · exact ⟨d, a1, by omega, a3⟩
    · exact ⟨k, hk.1, by omega, by omega, hb, hc⟩
  · rintro ⟨d, a1, a2, a3, a4, a5⟩
    by_cases e : d = k
    · exact Or.inr (by omega)
    · exact Or.inl ⟨d, a1, by omega, a3, a4, a5⟩
theorem xCw.to {G M : Int → Int} {s b c x k n : Int} {y : Int64} (h : xCw G M s b c x k y) (e : (k = n) ∨ (x = b)) : xCw G M s b c x n y := fun i hi => by
  rcases e with e | e
  · rw [← e]; exact h i hi
  · rw [h i hi]
    exact ⟨fun ⟨_, _, _, _, q, _⟩ => absurd e q, fun ⟨_, _, _, _, q, _⟩ => absurd e q⟩
def xCb (n : Int) (G M : Int → Int) (s b c k : Int) (y : Int64) : Prop := ∀ i : Nat, i < 64 → (xbt y i = true ↔ ∃ x d : Int, 0 ≤ x ∧ x < k ∧ 0 ≤ d ∧ d < n ∧ (i : Int) = 8 * x + d ∧ x ≠ b ∧ xCl G M s b c x d)
theorem xCb.z {n : Int} {G M : Int → Int} {s b c : Int} : xCb n G M s b c 0 (iL 0) := fun i _ => ⟨fun h => (by rw [xbt_0] at h; cases h), fun ⟨x, d, q1, q2, _⟩ => by omega⟩
theorem xCb.s {n : Int} {G M : Int → Int} {s b c k : Int} {y r : Int64} (h : xCb n G M s b c k y) (h2 : xCw G M s b c k n r) (hk : 0 ≤ k) : xCb n G M s b c (k + 1) (y ||| r) := fun i hi => by
  rw [xbt_or, Bool.or_eq_true, h i hi, h2 i hi]
  constructor
  · rintro (⟨x, d, a1, a2, a3⟩ | ⟨d, a1, a2, a3, a4⟩)
    · exact ⟨x, d, a1, by omega, a3⟩
    · exact ⟨k, d, hk, by omega, a1, a2, a3, a4⟩
  · rintro ⟨x, d, a1, a2, a3, a4, a5, a6⟩
    by_cases e : x = k
    · subst e; exact Or.inr ⟨d, a3, a4, a5, a6⟩
    · exact Or.inl ⟨x, d, a1, by omega, a3, a4, a5, a6⟩
theorem xCb.to {n : Int} {G M : Int → Int} {s b c k k' : Int} {y : Int64} (h : xCb n G M s b c k y) (e : k = k') : xCb n G M s b c k' y := e ▸ h
def xCm (n : Int) (G M : Int → Int) (s : Int) (L : Int → Int64) (b0 c0 : Int) : Prop := ∀ b c, 0 ≤ b → b < n → 0 ≤ c → c < n → (b < b0 ∨ (b = b0 ∧ c < c0)) → xCb n G M s b c n (L (8 * b + c))
theorem xCm.z {n : Int} {G M : Int → Int} {s : Int} {L : Int → Int64} : xCm n G M s L 0 0 := fun b c q1 q2 q3 q4 q5 => by omega
theorem xCm.s {n : Int} {G M : Int → Int} {s b c j : Int} {L L' : Int → Int64} (h : xCm n G M s L b c) (hn : n ≤ 8) (hb : 0 ≤ b ∧ b < n) (hc : 0 ≤ c ∧ c < n) (hj : j = 8 * b + c) (h1 : xCb n G M s b c n (L' j)) (h2 : ∀ i, 0 ≤ i → i ≠ j → L' i = L i) : xCm n G M s L' b (c + 1) := fun x d q1 q2 q3 q4 q5 => by
  by_cases e : x = b ∧ d = c
  · rw [e.1, e.2, ← hj]; exact h1
  · rw [h2 _ (by omega) (by omega)]
    exact h x d q1 q2 q3 q4 (by omega)
theorem xCm.row {n : Int} {G M : Int → Int} {s b c : Int} {L : Int → Int64} (h : xCm n G M s L b c) (hc : n ≤ c) : xCm n G M s L (b + 1) 0 := fun x d q1 q2 q3 q4 q5 => h x d q1 q2 q3 q4 (by omega)
def xBr (n : Int) (G M : Int → Int) (s : Int) (t : Int → Int) (b : Int) (y : Int64) : Prop := ∀ x d, 0 ≤ x → x < n → 0 ≤ d → d < n → (xbt y (8 * x + d).toNat = true ↔ ∃ k : Int, 0 ≤ k ∧ k < b ∧ x ≠ k ∧ xCl G M s k (t k) x d)
theorem xBr.z {n : Int} {G M t : Int → Int} {s : Int} : xBr n G M s t 0 (iL 0) := fun x d _ _ _ _ => ⟨fun h => (by rw [xbt_0] at h; cases h), fun ⟨k, q1, q2, _⟩ => by omega⟩
theorem xBr.s {n : Int} {G M t t' : Int → Int} {s b c : Int} {y r : Int64} (h : xBr n G M s t b y) (hn : n ≤ 8) (h2 : xCb n G M s b c n r) (hb : 0 ≤ b) (e : t' b = c) (ho : ∀ k, 0 ≤ k → k < b → t' k = t k) : xBr n G M s t' (b + 1) (y ||| r) := fun x d q1 q2 q3 q4 => by
  rw [xbt_or, Bool.or_eq_true, h x d q1 q2 q3 q4, h2 (8 * x + d).toNat (by omega)]
  constructor
  · rintro (⟨k, a1, a2, a3, a4⟩ | ⟨x', d', a1, a2, a3, a4, a5, a6, a7⟩)
    · exact ⟨k, a1, by omega, a3, by rw [ho k a1 a2]; exact a4⟩
    · have ex : x' = x := by omega
      have ed : d' = d := by omega
      subst ex
      subst ed
      exact ⟨b, hb, by omega, a6, by rw [e]; exact a7⟩
  · rintro ⟨k, a1, a2, a3, a4⟩
    by_cases q : k = b
    · subst q
      rw [e] at a4
      exact Or.inr ⟨x, d, q1, q2, q3, q4, by omega, a3, a4⟩
    · rw [ho k a1 (by omega)] at a4
      exact Or.inl ⟨k, a1, by omega, a3, a4⟩
def xPt (n : Int) (G M : Int → Int) (s : Int) (t : Int → Int) (b : Int) : Prop := (∀ k, 0 ≤ k → k < b → 0 ≤ t k ∧ t k < n) ∧ ∀ i j, 0 ≤ i → i < b → 0 ≤ j → j < b → i ≠ j → t i ≠ t j ∧ ¬ xFt G M s i (t i) j (t j)
theorem xPt.s {n : Int} {G M t t' : Int → Int} {s b c : Int} {y : Int64} (h : xPt n G M s t b) (hy : xBr n G M s t b y) (hb : 0 ≤ b ∧ b < n) (hc : 0 ≤ c ∧ c < n) (hz : xbt y (8 * b + c).toNat = false) (e : t' b = c) (ho : ∀ k, 0 ≤ k → k < b → t' k = t k) : xPt n G M s t' (b + 1) := by
  have free : ∀ k, 0 ≤ k → k < b → ¬ xCl G M s k (t k) b c := fun k q1 q2 w => by
    have := (hy b c hb.1 hb.2 hc.1 hc.2).mpr ⟨k, q1, q2, by omega, w⟩
    rw [hz] at this
    cases this
  refine ⟨fun k q1 q2 => ?_, fun i j q1 q2 q3 q4 q5 => ?_⟩
  · by_cases q : k = b
    · rw [q, e]; exact hc
    · rw [ho k q1 (by omega)]; exact h.1 k q1 (by omega)
  · by_cases qi : i = b
    · have qj : j < b := by omega
      have f := free j q3 qj
      rw [qi, e, ho j q3 qj]
      exact ⟨fun w => f (Or.inl w), fun w => f (Or.inr (Or.inr w))⟩
    · by_cases qj : j = b
      · have f := free i q1 (by omega)
        rw [qj, e, ho i q1 (by omega)]
        exact ⟨fun w => f (Or.inl w.symm), fun w => f (Or.inr (Or.inl w))⟩
      · rw [ho i q1 (by omega), ho j q3 (by omega)]
        exact h.2 i j q1 (by omega) q3 (by omega) q5
theorem xbar {n : Int} {G M t u : Int → Int} {s b c : Int} {y : Int64} (hy : xBr n G M s t b y) (hb : 0 ≤ b ∧ b < n) (hc : 0 ≤ c ∧ c < n) (hz : xbt y (8 * b + c).toNat = true) (hu : xPc n G M s u) (ha : ∀ k, 0 ≤ k → k < b → u k = t k) (e : u b = c) : False := by
  obtain ⟨k, q1, q2, q3, w⟩ := (hy b c hb.1 hb.2 hc.1 hc.2).mp hz
  have p := hu.2 k b q1 (by omega) hb.1 hb.2 (by omega)
  have p2 := hu.2 b k hb.1 hb.2 q1 (by omega) (by omega)
  rw [ha k q1 q2, e] at p p2
  rcases w with w | w | w
  · exact p.1 w.symm
  · exact p.2 w
  · exact p2.2 w
def xAg (t : Int → Int) (b : Int) : (Int → Int) → Prop := fun u => ∀ k, 0 ≤ k → k < b → u k = t k
theorem xps_cg {G t t' : Int → Int} {b : Nat} (h : ∀ k : Int, 0 ≤ k → k < b → t k = t' k) : xps G t b = xps G t' b := xsum_cg (fun i q1 q2 => by rw [h i q1 q2])
theorem xpl_prune {n : Int} {G M R t co : Int → Int} {s m sm tk : Int} {b : Nat} (hb : (b : Int) ≤ n) (hR : xRs n G R) (ht : tk = ((xmk t b : Nat) : Int)) (hs : sm = xps G t b) (h : sm + R tk ≤ m) : xD (xAg t b) n G M s m m co co := xD.none (fun u hu ha => by
  have r := hR u hu.pr b hb
  rw [xps_cg (t := u) (t' := t) (b := b) ha, xmk_cg (t := u) (t' := t) (b := b) ha, ← ht, ← hs] at r
  have e : xVs n G u = xps G u n.toNat := rfl
  omega)
theorem xpl_leaf {n : Int} {G M t co c' : Int → Int} {s m sm : Int} (hn : 0 ≤ n ∧ n ≤ 8) (hp : xPt n G M s t n) (hs : sm = xps G t n.toNat) (h : m < sm) (hc : ∀ k, 0 ≤ k → k < n → c' k = t k) : xD (xAg t n) n G M s m sm co c' :=
  xD.hit (fun u u' e a k q1 q2 => (e k q1 q2).symm.trans (a k q1 q2)) hn.2 ⟨fun b q1 q2 => hp.1 b q1 q2, fun b x q1 q2 q3 q4 q5 => hp.2 b x q1 q2 q3 q4 q5⟩ hs.symm h (fun _ _ _ => rfl) (fun u _ a => xnm_cg a) hc
theorem xplS {n : Int} {G M t co c1 c2 : Int → Int} {s m0 m1 m2 b c : Int} (hn : n ≤ 8) (hb : 0 ≤ b ∧ b < n) (hA : xD (fun u => xAg t b u ∧ u b < c) n G M s m0 m1 co c1) (hB : xD (fun u => xAg t b u ∧ u b = c) n G M s m1 m2 c1 c2) : xD (fun u => xAg t b u ∧ u b < c + 1) n G M s m0 m2 co c2 := by
  refine xD.iff (xD.seq (fun u u' e a => ⟨fun k q1 q2 => (e k q1 (by omega)).symm.trans (a.1 k q1 q2), by rw [← e b hb.1 hb.2]; exact a.2⟩) hA hB (fun u v hu hv a a' => ?_)) (fun u _ => ⟨fun a => ?_, fun a => ?_⟩)
  · exact Int.le_of_lt (xnm_lt (i := b) hb (fun k q1 q2 => (a'.1 k q1 q2).trans (a.1 k q1 q2).symm) (by rw [a'.2]; exact a.2) (hu.r hn) (hv.r hn))
  · rcases a with a | a
    · exact ⟨a.1, by have := a.2; omega⟩
    · exact ⟨a.1, by have := a.2; omega⟩
  · by_cases e : u b = c
    · exact Or.inr ⟨a.1, e⟩
    · exact Or.inl ⟨a.1, by have := a.2; omega⟩
theorem xpl_bar {n : Int} {G M t co : Int → Int} {s m b c : Int} {y : Int64} (hy : xBr n G M s t b y) (hb : 0 ≤ b ∧ b < n) (hc : 0 ≤ c ∧ c < n) (hz : xbt y (8 * b + c).toNat = true) : xD (fun u => xAg t b u ∧ u b = c) n G M s m m co co := xD.none (fun u hu a => (xbar hy hb hc hz hu a.1 a.2).elim)
theorem xpl_in {n : Int} {G M t t' co c1 : Int → Int} {s m m1 b c : Int} (hb : 0 ≤ b) (e : t' b = c) (ho : ∀ k, 0 ≤ k → k < b → t' k = t k) (h : xD (xAg t' (b + 1)) n G M s m m1 co c1) : xD (fun u => xAg t b u ∧ u b = c) n G M s m m1 co c1 := h.iff (fun u _ => ⟨fun a => ⟨fun k q1 q2 => (a k q1 (by omega)).trans (ho k q1 q2), (a b hb (by omega)).trans e⟩, fun a k q1 q2 => by
  by_cases q : k = b
  · rw [q, a.2]; exact e.symm
  · rw [a.1 k q1 (by omega)]; exact (ho k q1 (by omega)).symm⟩)
theorem xpl_0 {n : Int} {G M t co : Int → Int} {s m b : Int} (hb : 0 ≤ b ∧ b < n) : xD (fun u => xAg t b u ∧ u b < 0) n G M s m m co co := xD.none (fun u hu a => by
  have := hu.1 b hb.1 hb.2
  have := a.2
  omega)
theorem xpl_e {n : Int} {G M t co c1 : Int → Int} {s m m1 b c : Int} (hb : 0 ≤ b ∧ b < n) (hc : n ≤ c) (h : xD (fun u => xAg t b u ∧ u b < c) n G M s m m1 co c1) : xD (xAg t b) n G M s m m1 co c1 := h.iff (fun u hu => ⟨fun a => a.1, fun a => ⟨a, by have := hu.1 b hb.1 hb.2; omega⟩⟩)
def xRb (n : Int) (R : Int → Int) (z : Int) : Prop := ∀ m : Int, z < m → m < ((2 ^ n.toNat : Nat) : Int) → 0 ≤ R m ∧ R m ≤ 255 * (n - ((xpop m.toNat : Nat) : Int))
theorem xpop_le (m : Nat) : xpop m ≤ 8 := by
  have h : ∀ c, xtb m c ≤ 1 := fun c => Nat.le_of_lt_succ (Nat.mod_lt _ (by decide))
  unfold xpop
  have := h 0; have := h 1; have := h 2; have := h 3; have := h 4; have := h 5; have := h 6; have := h 7
  omega
theorem iI_inj2 {a b : Int} (h : iI a = iI b) (ha : -2147483648 ≤ a ∧ a ≤ 2147483647) (hb : -2147483648 ≤ b ∧ b ≤ 2147483647) : a = b := by
  have := congrArg Int32.toInt h
  rw [iI_toInt ha.1 ha.2, iI_toInt hb.1 hb.2] at this
  exact this
theorem xbc_pop {x z : Int} (hx : 0 ≤ x ∧ x ≤ 254) (hz : -2147483648 ≤ z ∧ z ≤ 2147483647) (e : xBC (iI x) = iI z) : z = ((xpop x.toNat : Nat) : Int) := by
  have h := xm_pop ⟨x.toNat, by omega⟩
  have hx2 : (((⟨x.toNat, by omega⟩ : Fin 255).val : Nat) : Int) = x := by show ((x.toNat : Nat) : Int) = x; omega
  rw [hx2, e] at h
  have l := xpop_le x.toNat
  exact iI_inj2 h hz (by show -2147483648 ≤ ((xpop x.toNat : Nat) : Int) ∧ _; omega)
theorem xtb_of {m c z1 z2 : Int} (hm : 0 ≤ m ∧ m ≤ 255) (hc : 0 ≤ c ∧ c ≤ 7) (e1 : iI m >>> (iI c &&& 31) = iI z1) (e2 : iI z1 &&& iI 1 = iI z2) (hz : -2147483648 ≤ z2 ∧ z2 ≤ 2147483647) : z2 = ((xtb m.toNat c.toNat : Nat) : Int) := by
  have h := xm_shr ⟨m.toNat, by omega⟩ ⟨c.toNat, by omega⟩
  have em : (((⟨m.toNat, by omega⟩ : Fin 256).val : Nat) : Int) = m := by show ((m.toNat : Nat) : Int) = m; omega
  have ec : (((⟨c.toNat, by omega⟩ : Fin 8).val : Nat) : Int) = c := by show ((c.toNat : Nat) : Int) = c; omega
  rw [em, ec, e1, e2] at h
  have l : xtb m.toNat c.toNat ≤ 1 := Nat.le_of_lt_succ (Nat.mod_lt _ (by decide))
  exact iI_inj2 h hz (by show -2147483648 ≤ ((xtb m.toNat c.toNat : Nat) : Int) ∧ _; omega)
theorem xor_of {m c z1 z2 : Int} (hm : 0 ≤ m ∧ m ≤ 255) (hc : 0 ≤ c ∧ c ≤ 7) (hb : xtb m.toNat c.toNat = 0) (e1 : iI 1 <<< (iI c &&& 31) = iI z1) (e2 : iI m ||| iI z1 = iI z2) (hz : -2147483648 ≤ z2 ∧ z2 ≤ 2147483647) : z2 = m + ((2 ^ c.toNat : Nat) : Int) := by
  have h := xm_or ⟨m.toNat, by omega⟩ ⟨c.toNat, by omega⟩ hb
  have em : (((⟨m.toNat, by omega⟩ : Fin 256).val : Nat) : Int) = m := by show ((m.toNat : Nat) : Int) = m; omega
  have ec : (((⟨c.toNat, by omega⟩ : Fin 8).val : Nat) : Int) = c := by show ((c.toNat : Nat) : Int) = c; omega
  rw [em, ec, e1, e2] at h
  have l := (xm_up ⟨m.toNat, by omega⟩ ⟨c.toNat, by omega⟩ hb).2.1
  have l' : m.toNat + 2 ^ c.toNat < 256 := l
  have h' : iI z2 = iI ((m.toNat + 2 ^ c.toNat : Nat) : Int) := h
  obtain ⟨p, hp⟩ : ∃ p : Nat, p = 2 ^ c.toNat := ⟨_, rfl⟩
  rw [← hp] at l' h' ⊢
  have q := iI_inj2 h' hz (by omega)
  omega
set_option maxRecDepth 100000 in
theorem xm_in : ∀ m : Fin 256, ∀ n : Fin 9, ∀ c : Fin 8, c.val < n.val → m.val < 2 ^ n.val → xtb m.val c.val = 0 → m.val + 2 ^ c.val < 2 ^ n.val ∧ xpop (m.val + 2 ^ c.val) = xpop m.val + 1 := by decide +kernel
set_option maxRecDepth 100000 in
theorem xm_pn : ∀ m : Fin 256, ∀ n : Fin 9, m.val < 2 ^ n.val → xpop m.val ≤ n.val := by decide +kernel
theorem xRb.at {n z m c v : Int} {R : Int → Int} (h : xRb n R z) (hn : 0 ≤ n ∧ n ≤ 8) (hz : 0 ≤ z ∧ z ≤ 255) (hz2 : z < ((2 ^ n.toNat : Nat) : Int)) (hc : 0 ≤ c ∧ c < n) (hb : xtb z.toNat c.toNat = 0) (hm : m = z + ((2 ^ c.toNat : Nat) : Int)) (e : R m = v) : 0 ≤ v ∧ v ≤ 255 * (n - ((xpop z.toNat : Nat) : Int)) - 255 := by
  have q := xm_in ⟨z.toNat, by omega⟩ ⟨n.toNat, by omega⟩ ⟨c.toNat, by omega⟩ (by show c.toNat < n.toNat; omega) (by show z.toNat < 2 ^ n.toNat; omega) hb
  have q1 : z.toNat + 2 ^ c.toNat < 2 ^ n.toNat := q.1
  have q2 : xpop (z.toNat + 2 ^ c.toNat) = xpop z.toNat + 1 := q.2
  have p : 0 < 2 ^ c.toNat := Nat.two_pow_pos _
  have w := h m (by omega) (by omega)
  rw [show m.toNat = z.toNat + 2 ^ c.toNat by omega, q2, e] at w
  omega
theorem xRb.s {n z m : Int} {R R' : Int → Int} (h : xRb n R z) (hz : 0 ≤ z) (hm : 0 ≤ m ∧ m ≤ 255 * (n - ((xpop z.toNat : Nat) : Int))) (h1 : R' z = m) (h2 : ∀ i, 0 ≤ i → i ≠ z → R' i = R i) : xRb n R' (z + (-1)) := fun k q1 q2 => by
  by_cases e : k = z
  · rw [e, h1]; exact hm
  · rw [h2 k (by omega) e]; exact h k (by omega) q2
theorem xRb.z {n z : Int} {R : Int → Int} (hn : 0 ≤ n ∧ n ≤ 8) (hz : z + 1 = ((2 ^ n.toNat : Nat) : Int)) (h0 : R z = 0) : xRb n R (z - 1) := fun k q1 q2 => by
  have e : k = z := by omega
  have p := xm_all ⟨n.toNat, by omega⟩
  have p' : xpop (2 ^ n.toNat - 1) = n.toNat := p
  rw [e, h0, show z.toNat = 2 ^ n.toNat - 1 by omega, p']
  omega
def xMxr (G R : Int → Int) (z b c m : Int) : Prop := ∀ k : Int, 0 ≤ k → k < c → xtb z.toNat k.toNat = 0 → G (8 * b + k) + R (z + ((2 ^ k.toNat : Nat) : Int)) ≤ m
theorem xMxr.z {G R : Int → Int} {z b m : Int} : xMxr G R z b 0 m := fun k q1 q2 => by omega
theorem xMxr.skip {G R : Int → Int} {z b c m : Int} (h : xMxr G R z b c m) (hb : xtb z.toNat c.toNat ≠ 0) : xMxr G R z b (c + 1) m := fun k q1 q2 q3 => by
  by_cases e : k = c
  · rw [e] at q3; exact absurd q3 hb
  · exact h k q1 (by omega) q3
theorem xMxr.s {G R : Int → Int} {z b c m m' a v i : Int} (h : xMxr G R z b c m) (h1 : m ≤ m') (ha : G (8 * b + c) = a) (hi : i = z + ((2 ^ c.toNat : Nat) : Int)) (hv : R i = v) (h2 : a + v ≤ m') : xMxr G R z b (c + 1) m' := fun k q1 q2 q3 => by
  by_cases e : k = c
  · rw [e, ha, ← hi, hv]; exact h2
  · have := h k q1 (by omega) q3; omega
theorem xRz.at {n z z' : Int} {G r : Int → Int} (h : xRz n G r z) (e : z' = z) : xRz n G r z' := e ▸ h
theorem xPt.px {n : Int} {G M t : Int → Int} {s b : Int} {bn : Nat} (h : xPt n G M s t b) (hb : b = (bn : Int)) (hn : b ≤ n) : xPfx n t bn := ⟨by omega, fun k q1 q2 => h.1 k q1 (by omega), fun i j q1 q2 q3 q4 q5 => (h.2 i j q1 (by omega) q3 (by omega) q5).1⟩
theorem xpl_r {n : Int} {G M R t : Int → Int} {s b tk v : Int} {bn : Nat} (hn : 0 ≤ n ∧ n ≤ 8) (h : xPt n G M s t b) (hb : b = (bn : Int)) (hbn : b ≤ n) (hr : xRb n R (-1)) (ht : tk = ((xmk t bn : Nat) : Int)) (e : R tk = v) : 0 ≤ v ∧ v ≤ 2040 := by
  have l := (xmk_lt hn (h.px hb hbn)).1
  have w := hr tk (by omega) (by omega)
  rw [e] at w
  omega
theorem xpl_z {n : Int} {G M R t : Int → Int} {s b tk v : Int} {bn : Nat} (hn : 0 ≤ n ∧ n ≤ 8) (h : xPt n G M s t b) (hb : b = (bn : Int)) (hbn : b = n) (h0 : R (((2 ^ n.toNat : Nat) : Int) - 1) = 0) (ht : tk = ((xmk t bn : Nat) : Int)) (e : R tk = v) : v = 0 := by
  have l := (xmk_lt hn (h.px hb (by omega))).2 (by omega)
  rw [← e, ← h0]
  congr 1
  omega
theorem xpl_prune2 {n : Int} {G M R t co : Int → Int} {s m sm tk v b : Int} {bn : Nat} (hb : b = (bn : Int)) (hbn : b ≤ n) (hR : xRs n G R) (ht : tk = ((xmk t bn : Nat) : Int)) (hs : sm = xps G t bn) (e : R tk = v) (h : sm + v ≤ m) : xD (xAg t b) n G M s m m co co := by
  subst hb
  exact xpl_prune hbn hR ht hs (by rw [e]; exact h)
theorem xpl_leaf2 {n : Int} {G M t co c' : Int → Int} {s m sm b : Int} {bn : Nat} (hb : b = (bn : Int)) (hbn : b = n) (hn : 0 ≤ n ∧ n ≤ 8) (hp : xPt n G M s t b) (hs : sm = xps G t bn) (h : m < sm) (hc : ∀ k, 0 ≤ k → k < n → c' k = t k) : xD (xAg t b) n G M s m sm co c' := by
  have e : bn = n.toNat := by omega
  subst hbn
  exact xpl_leaf hn hp (by rw [← e]; exact hs) h hc
theorem xbt_at (y : Int64) {a : Int} (ha : 0 ≤ a ∧ a < 64) : ((y.toUInt64 >>> ((iI a).toInt64.toUInt64 &&& Int64.toUInt64 63)).toInt64 &&& iL 1 = iL 0) ↔ xbt y a.toNat = false := by
  have h := xbt_shr y ⟨a.toNat, by omega⟩
  have ea : (((⟨a.toNat, by omega⟩ : Fin 64).val : Nat) : Int) = a := by show ((a.toNat : Nat) : Int) = a; omega
  rw [ea] at h
  exact h
theorem xpl_f {n : Int} {G M t : Int → Int} {s b c : Int} {bn : Nat} {y : Int64} (hn : 0 ≤ n ∧ n ≤ 8) (hp : xPt n G M s t b) (hb : b = (bn : Int)) (hbn : b < n) (hy : xBr n G M s t b y) (hc : 0 ≤ c ∧ c < n) (hz : xbt y (8 * b + c).toNat = false) : xtb (xmk t bn) c.toNat = 0 := by
  refine (xmk_in hn.2 bn (hp.px hb (by omega))).2.2 c.toNat (by omega) (fun k q1 q2 e => ?_)
  have := (hy b c (by omega) hbn hc.1 hc.2).mpr ⟨k, q1, by omega, by omega, Or.inl (by omega)⟩
  rw [hz] at this
  cases this
theorem xpl_t {n : Int} {G M t t' : Int → Int} {s b c tk z1 z2 : Int} {bn : Nat} {y : Int64} (hn : 0 ≤ n ∧ n ≤ 8) (hp : xPt n G M s t b) (hb : b = (bn : Int)) (hbn : b < n) (hy : xBr n G M s t b y) (hc : 0 ≤ c ∧ c < n) (hz : xbt y (8 * b + c).toNat = false) (ht : tk = ((xmk t bn : Nat) : Int)) (e1 : iI 1 <<< (iI c &&& 31) = iI z1) (e2 : iI tk ||| iI z1 = iI z2) (r : -2147483648 ≤ z2 ∧ z2 ≤ 2147483647) (e : t' b = c) (ho : ∀ k, 0 ≤ k → k < b → t' k = t k) : z2 = ((xmk t' (bn + 1) : Nat) : Int) := by
  have f := xpl_f hn hp hb hbn hy hc hz
  have l := (xmk_in hn.2 bn (hp.px hb (by omega))).1
  have q := xor_of (m := tk) (c := c) (by omega) (by omega) (by rw [show tk.toNat = xmk t bn by omega]; exact f) e1 e2 r
  have ex : xmk t' (bn + 1) = xmk t' bn + 2 ^ (t' (bn : Int)).toNat := rfl
  rw [q, ex, xmk_cg (t := t') (t' := t) (b := bn) (fun k q1 q2 => ho k q1 (by omega)), ← hb, e]
  omega
theorem xpl_p {G t t' : Int → Int} {b c sm a : Int} {bn : Nat} (hb : b = (bn : Int)) (hs : sm = xps G t bn) (ha : G (8 * b + c) = a) (e : t' b = c) (ho : ∀ k, 0 ≤ k → k < b → t' k = t k) : sm + a = xps G t' (bn + 1) := by
  have ex : xps G t' (bn + 1) = xps G t' bn + G (8 * (bn : Int) + t' (bn : Int)) := rfl
  rw [ex, xps_cg (t := t') (t' := t) (b := bn) (fun k q1 q2 => ho k q1 (by omega)), ← hs, ← hb, e, ha]
def xLr (n : Int) (f G M : Int → Int) (b0 c0 : Int) : Prop := ∀ b c, 0 ≤ b → b < n → 0 ≤ c → c < n → (b < b0 ∨ (b = b0 ∧ c < c0)) → G (8 * b + c) = f (b * n + c) ∧ M (8 * b + c) = f (n * n + (b * n + c))
theorem xLr.z {n : Int} {f G M : Int → Int} : xLr n f G M 0 0 := fun b c q1 q2 q3 q4 q5 => by omega
theorem xLr.s {n b c j x y : Int} {f G M G' M' : Int → Int} (h : xLr n f G M b c) (hn : n ≤ 8) (hb : 0 ≤ b ∧ b < n) (hc : 0 ≤ c ∧ c < n) (hj : j = 8 * b + c) (e1 : f (b * n + c) = x) (e2 : f (n * n + (b * n + c)) = y) (g1 : G' j = x) (g2 : ∀ i, 0 ≤ i → i ≠ j → G' i = G i) (m1 : M' j = y) (m2 : ∀ i, 0 ≤ i → i ≠ j → M' i = M i) : xLr n f G' M' b (c + 1) := fun u v q1 q2 q3 q4 q5 => by
  by_cases e : u = b ∧ v = c
  · rw [e.1, e.2, ← hj, g1, m1, e1, e2]; exact ⟨rfl, rfl⟩
  · rw [g2 _ (by omega) (by omega), m2 _ (by omega) (by omega)]
    exact h u v q1 q2 q3 q4 (by omega)
theorem xLr.row {n b c : Int} {f G M : Int → Int} (h : xLr n f G M b c) (hc : n ≤ c) : xLr n f G M (b + 1) 0 := fun x d q1 q2 q3 q4 q5 => h x d q1 q2 q3 q4 (by omega)
theorem xpl_b {n : Int} {G M t co c1 : Int → Int} {s m : Int} (hn : 0 ≤ n ∧ n ≤ 8) (hG : ∀ j : Int, 0 ≤ j → j < 64 → 0 ≤ G j) (h : xD (xAg t 0) n G M s (-1) m co c1) : xBst n G M s m c1 :=
  xD.bst (fun t ht => xVs_nn hn hG ht) (h.iff (fun u _ => ⟨fun _ => trivial, fun _ k q1 q2 => by omega⟩))
theorem xPt.z {n : Int} {G M t : Int → Int} {s : Int} : xPt n G M s t 0 := ⟨fun k q1 q2 => by omega, fun i j q1 q2 => by omega⟩
set_option maxHeartbeats 4000000 in
set_option maxRecDepth 100000 in
theorem c3_wouldFight (l : Launch) (D : va_G) (kA : Nat → ClassId) (b0 : Nat) (t0 : Nat → Nat) (S : xT) (g : xG) (a0 : Nat) (x1 : Int) (x2 : Int) (x3 : Int) (x4 : Int) (x5 : Int) (w1 : Nat) (w2 : Nat) (hs_a0 : S a0 = some (7, 0)) (hx1 : 0 ≤ x1 ∧ x1 ≤ 7) (hx2 : 0 ≤ x2 ∧ x2 ≤ 7) (hx3 : 0 ≤ x3 ∧ x3 ≤ 7) (hx4 : 0 ≤ x4 ∧ x4 ≤ 7) (hx5 : (-2147483648) ≤ x5 ∧ x5 ≤ 2147483647) (ew1 : g a0 1 = .ref w1) (hs_w1 : S w1 = some (12100, 64)) (ew2 : g a0 2 = .ref w2) (hs_w2 : S w2 = some (12200, 64)) : xMt l yX6_wouldFight cX6_wouldFight 6 (some .boolean) 0 0 0 0 D kA b0 t0 [] [.ref a0, .int (iI x1), .int (iI x2), .int (iI x3), .int (iI x4), .int (iI x5)] S g (fun (r : Option Value) (S1 : xT) (g1 : xG) => S = S1 ∧ g = g1 ∧ ∃ z : Int, r = some (.int (iI z)) ∧ 0 ≤ z ∧ z ≤ 1 ∧ ((z = 1 ↔ xFt (xv g w1) (xv g w2) x5 x1 x2 x3 x4))) := by
  refine xEnterZ (by decide) (by simp [lg_sl, Value.category]) [(0, .ref a0), (1, .int (iI x1)), (2, .int (iI x2)), (3, .int (iI x3)), (4, .int (iI x4)), (5, .int (iI x5))] rfl ?_
  intro K E hK hret _ _ _
  refine X_aloadn hK (i := 0) 0 kd26_26.2.2.2.2.2.2.2.2.1 rfl rfl ?_
  refine X_getK hK fl_X6_15_7 hs_a0 ew1 kd26_26.2.2.2.2.2.2.2.2.2.1 ?_
  refine X_iloadn hK (i := 1) 1 kd26_26.2.2.2.2.2.2.2.2.2.2.1 rfl rfl ?_
  refine X_bipush hK kd26_26.2.2.2.2.2.2.2.2.2.2.2 (by decide) ?_
  refine X_imul hK kd26_27.1 ?_
  refine X_iload hK (i := 4) 4 kd26_27.2.1 rfl ?_
  refine X_iadd hK kd26_27.2.2.1 ?_
  refine X_iald hK hs_w1 (by decide) sl_12100 (by omega) (by omega) kd26_27.2.2.2.1 (fun z1 ez1 lz1 uz1 => ?_)
  have hq2 : xv g w1 (8 * x1 + x4) = z1 := (by rw [show 8 * x1 + x4 = ((x1 * 8) + x4) by omega]; exact xv_e (j := ((x1 * 8) + x4)) ez1 (by omega))
  refine X_aloadn hK (i := 0) 0 kd26_27.2.2.2.2.1 rfl rfl ?_
  refine X_getK hK fl_X6_15_7 hs_a0 ew1 kd26_27.2.2.2.2.2.1 ?_
  refine X_iloadn hK (i := 1) 1 kd26_27.2.2.2.2.2.2.1 rfl rfl ?_
  refine X_bipush hK kd26_27.2.2.2.2.2.2.2.1 (by decide) ?_
  refine X_imul hK kd26_27.2.2.2.2.2.2.2.2.1 ?_
  refine X_iloadn hK (i := 2) 2 kd26_27.2.2.2.2.2.2.2.2.2.1 rfl rfl ?_
  refine X_iadd hK kd26_27.2.2.2.2.2.2.2.2.2.2.1 ?_
  refine X_iald hK hs_w1 (by decide) sl_12100 (by omega) (by omega) kd26_27.2.2.2.2.2.2.2.2.2.2.2 (fun z3 ez3 lz3 uz3 => ?_)
  have hq4 : xv g w1 (8 * x1 + x2) = z3 := (by rw [show 8 * x1 + x2 = ((x1 * 8) + x2) by omega]; exact xv_e (j := ((x1 * 8) + x2)) ez3 (by omega))
  refine X_isub hK kd26_28.1 ?_
  refine X_iload hK (i := 5) 5 kd26_28.2.1 rfl ?_
  refine X_icmp_lt hK 60 (by omega) (by omega) kd26_28.2.2.1 (by decide) (fun c5 => ?_) (fun c5 => ?_)
  · refine X_iconst hK kd26_29.2.2.2.2.2.2.2.2.2.2.1 ?_
    exact hret _ _ _ _ _ _ _ kd26_29.2.2.2.2.2.2.2.2.2.2.2 (by omega) (by omega) ⟨rfl, rfl, 0, rfl, (by omega), (by omega), ⟨fun h9 => by unfold xFt; omega, fun h9 => by unfold xFt at h9; omega⟩⟩ (Nat.le_refl _) (Nat.le_refl _)
  · refine X_aloadn hK (i := 0) 0 kd26_28.2.2.2.1 rfl rfl ?_
    refine X_getK hK fl_X6_19_7 hs_a0 ew2 kd26_28.2.2.2.2.1 ?_
    refine X_iloadn hK (i := 1) 1 kd26_28.2.2.2.2.2.1 rfl rfl ?_
    refine X_bipush hK kd26_28.2.2.2.2.2.2.1 (by decide) ?_
    refine X_imul hK kd26_28.2.2.2.2.2.2.2.1 ?_
    refine X_iload hK (i := 4) 4 kd26_28.2.2.2.2.2.2.2.2.1 rfl ?_
    refine X_iadd hK kd26_28.2.2.2.2.2.2.2.2.2.1 ?_
    refine X_iald hK hs_w2 (by decide) sl_12200 (by omega) (by omega) kd26_28.2.2.2.2.2.2.2.2.2.2.1 (fun z6 ez6 lz6 uz6 => ?_)
    have hq7 : xv g w2 (8 * x1 + x4) = z6 := (by rw [show 8 * x1 + x4 = ((x1 * 8) + x4) by omega]; exact xv_e (j := ((x1 * 8) + x4)) ez6 (by omega))
    refine X_aloadn hK (i := 0) 0 kd26_28.2.2.2.2.2.2.2.2.2.2.2 rfl rfl ?_
    refine X_getK hK fl_X6_19_7 hs_a0 ew2 kd26_29.1 ?_
    refine X_iloadn hK (i := 3) 3 kd26_29.2.1 rfl rfl ?_
    refine X_bipush hK kd26_29.2.2.1 (by decide) ?_
    refine X_imul hK kd26_29.2.2.2.1 ?_
    refine X_iload hK (i := 4) 4 kd26_29.2.2.2.2.1 rfl ?_
    refine X_iadd hK kd26_29.2.2.2.2.2.1 ?_
    refine X_iald hK hs_w2 (by decide) sl_12200 (by omega) (by omega) kd26_29.2.2.2.2.2.2.1 (fun z8 ez8 lz8 uz8 => ?_)
    have hq9 : xv g w2 (8 * x3 + x4) = z8 := (by rw [show 8 * x3 + x4 = ((x3 * 8) + x4) by omega]; exact xv_e (j := ((x3 * 8) + x4)) ez8 (by omega))
    refine X_icmp_le hK 60 (by omega) (by omega) kd26_29.2.2.2.2.2.2.2.1 (by decide) (fun c10 => ?_) (fun c10 => ?_)
    · refine X_iconst hK kd26_29.2.2.2.2.2.2.2.2.2.2.1 ?_
      exact hret _ _ _ _ _ _ _ kd26_29.2.2.2.2.2.2.2.2.2.2.2 (by omega) (by omega) ⟨rfl, rfl, 0, rfl, (by omega), (by omega), ⟨fun h9 => by unfold xFt; omega, fun h9 => by unfold xFt at h9; omega⟩⟩ (Nat.le_refl _) (Nat.le_refl _)
    · refine X_iconst hK kd26_29.2.2.2.2.2.2.2.2.1 ?_
      refine X_goto hK 61 kd26_29.2.2.2.2.2.2.2.2.2.1 (by decide) ?_
      exact hret _ _ _ _ _ _ _ kd26_29.2.2.2.2.2.2.2.2.2.2.2 (by omega) (by omega) ⟨rfl, rfl, 1, rfl, (by omega), (by omega), ⟨fun h9 => by unfold xFt; omega, fun h9 => by unfold xFt at h9; omega⟩⟩ (Nat.le_refl _) (Nat.le_refl _)

set_option maxHeartbeats 4000000 in
set_option maxRecDepth 100000 in
theorem c3_clashesWith (l : Launch) (D : va_G) (kA : Nat → ClassId) (b0 : Nat) (t0 : Nat → Nat) (S : xT) (g : xG) (a0 : Nat) (x1 : Int) (x2 : Int) (x3 : Int) (x4 : Int) (n0 : Int) (w1 : Nat) (w2 : Nat) (hs_a0 : S a0 = some (7, 0)) (hx1 : 0 ≤ x1 ∧ x1 ≤ 7) (hx2 : 0 ≤ x2 ∧ x2 ≤ 7) (hx3 : 0 ≤ x3 ∧ x3 ≤ 7) (hx4 : (-2147483648) ≤ x4 ∧ x4 ≤ 2147483647) (hn0 : 1 ≤ n0 ∧ n0 ≤ 8) (en0 : g a0 0 = .int (iI n0)) (ew1 : g a0 1 = .ref w1) (hs_w1 : S w1 = some (12100, 64)) (ew2 : g a0 2 = .ref w2) (hs_w2 : S w2 = some (12200, 64)) : xMt l yX6_clashesWith cX6_clashesWith 8 (some .long) 1 0 0 25 D kA b0 t0 [] [.ref a0, .int (iI x1), .int (iI x2), .int (iI x3), .int (iI x4)] S g (fun (r : Option Value) (S1 : xT) (g1 : xG) => S = S1 ∧ g = g1 ∧ ∃ z : Int64, r = some (.long z) ∧ (xCw (xv g w1) (xv g w2) x4 x1 x2 x3 n0 z)) := by
  refine xEnterL (by decide) (by simp [lg_sl, Value.category]) [(0, .ref a0), (1, .int (iI x1)), (2, .int (iI x2)), (3, .int (iI x3)), (4, .int (iI x4))] rfl ?_
  intro K E hK hret _ _ _
  refine X_lconstE hK (a := 0) (by decide +kernel) kd26_5.2.2.2.2.2.2.2.2.2.2.1 ?_
  refine X_lstore hK (i := 5) [(5, .long (iL 0)), (0, .ref a0), (1, .int (iI x1)), (2, .int (iI x2)), (3, .int (iI x3)), (4, .int (iI x4))] kd26_5.2.2.2.2.2.2.2.2.2.2.2 (by decide) rfl ?_
  refine X_iconst hK kd26_6.1 ?_
  refine X_istore hK (i := 7) [(7, .int (iI 0)), (5, .long (iL 0)), (0, .ref a0), (1, .int (iI x1)), (2, .int (iI x2)), (3, .int (iI x3)), (4, .int (iI x4))] kd26_6.2.1 (by decide) rfl ?_
  have P103 : ∀ (nP103 : Nat) (z86 : Int) (_ : 0 ≤ z86) (_ : z86 ≤ 8) (y87 : Int64) (_ : xCw (xv g w1) (xv g w2) x4 x1 x2 x3 z86 y87) (_ : z86 ≤ n0) (_ : 24 - z86 < (nP103 : Int)), X K E 6 [(7, .int (iI z86)), (5, .long y87), (0, .ref a0), (1, .int (iI x1)), (2, .int (iI x2)), (3, .int (iI x3)), (4, .int (iI x4))] [] S g 0 0 := by
    intro nP103
    induction nP103 with
    | zero => intro z86 lz86 uz86 y87 v104 v105 mP103; exact False.elim (by omega)
    | succ nP103 ihP103 =>
      intro z86 lz86 uz86 y87 v104 v105 mP103
      refine X_iload hK (i := 7) 0 kd26_6.2.2.1 rfl ?_
      refine X_aloadn hK (i := 0) 2 kd26_6.2.2.2.1 rfl rfl ?_
      refine X_getK hK fl_X6_9_7 hs_a0 en0 kd26_6.2.2.2.2.1 ?_
      refine X_icmp_ge hK 74 (by omega) (by omega) kd26_6.2.2.2.2.2.1 (by decide) (fun c106 => ?_) (fun c106 => ?_)
      · refine X_lload hK (i := 5) 1 kd26_9.2.2.2.2.1 rfl ?_
        exact hret _ _ _ _ _ _ _ kd26_9.2.2.2.2.2.1 ⟨rfl, rfl, y87, rfl, (xCw.to v104 (by omega))⟩ (Nat.le_refl _) (Nat.le_refl _)
      · refine X_iloadn hK (i := 3) 5 kd26_6.2.2.2.2.2.2.1 rfl rfl ?_
        refine X_iloadn hK (i := 1) 3 kd26_6.2.2.2.2.2.2.2.1 rfl rfl ?_
        refine X_icmp_eq hK 74 (by omega) (by omega) kd26_6.2.2.2.2.2.2.2.2.1 (by decide) (fun c107 => ?_) (fun c107 => ?_)
        · refine X_lload hK (i := 5) 1 kd26_9.2.2.2.2.1 rfl ?_
          exact hret _ _ _ _ _ _ _ kd26_9.2.2.2.2.2.1 ⟨rfl, rfl, y87, rfl, (xCw.to v104 (by omega))⟩ (Nat.le_refl _) (Nat.le_refl _)
        · refine X_iload hK (i := 7) 0 kd26_6.2.2.2.2.2.2.2.2.2.1 rfl ?_
          refine X_iloadn hK (i := 2) 4 kd26_6.2.2.2.2.2.2.2.2.2.2.1 rfl rfl ?_
          refine X_icmp_eq hK 54 (by omega) (by omega) kd26_6.2.2.2.2.2.2.2.2.2.2.2 (by decide) (fun c108 => ?_) (fun c108 => ?_)
          · refine X_lload hK (i := 5) 1 kd26_8.2.2.2.2.1 rfl ?_
            refine X_lconstE hK (a := 1) (by decide +kernel) kd26_8.2.2.2.2.2.1 ?_
            refine X_iloadn hK (i := 3) 5 kd26_8.2.2.2.2.2.2.1 rfl rfl ?_
            refine X_bipush hK kd26_8.2.2.2.2.2.2.2.1 (by decide) ?_
            refine X_imul hK kd26_8.2.2.2.2.2.2.2.2.1 ?_
            refine X_iload hK (i := 7) 0 kd26_8.2.2.2.2.2.2.2.2.2.1 rfl ?_
            refine X_iadd hK kd26_8.2.2.2.2.2.2.2.2.2.2.1 ?_
            refine X_lshlE hK kd26_8.2.2.2.2.2.2.2.2.2.2.2 ?_
            refine X_lorE hK kd26_9.1 ?_
            refine X_lstore hK (i := 5) [(5, .long (y87 ||| ((iL 1) <<< ((iI ((x3 * 8) + z86)).toInt64 &&& 63)))), (7, .int (iI z86)), (0, .ref a0), (1, .int (iI x1)), (2, .int (iI x2)), (3, .int (iI x3)), (4, .int (iI x4))] kd26_9.2.1 (by decide) rfl ?_
            refine X_iinc hK (i := 7) (z := z86) (n := 1) 1 [(7, .int (iI (z86 + 1))), (5, .long (y87 ||| ((iL 1) <<< ((iI ((x3 * 8) + z86)).toInt64 &&& 63)))), (0, .ref a0), (1, .int (iI x1)), (2, .int (iI x2)), (3, .int (iI x3)), (4, .int (iI x4))] kd26_9.2.2.1 rfl (by decide) rfl ?_
            refine X_goto hK 6 kd26_9.2.2.2.1 (by decide) ?_
            exact ihP103  (z86 + 1) (by omega) (by omega) (y87 ||| ((iL 1) <<< ((iI ((x3 * 8) + z86)).toInt64 &&& 63))) (xCw.hit v104 (by omega) (by omega) (by omega) (Or.inl (by omega)) (by omega)) (by omega) (by omega)
          · refine X_aloadn hK (i := 0) 2 kd26_7.1 rfl rfl ?_
            refine X_iloadn hK (i := 1) 3 kd26_7.2.1 rfl rfl ?_
            refine X_iloadn hK (i := 2) 4 kd26_7.2.2.1 rfl rfl ?_
            refine X_iloadn hK (i := 3) 5 kd26_7.2.2.2.1 rfl rfl ?_
            refine X_iload hK (i := 7) 0 kd26_7.2.2.2.2.1 rfl ?_
            refine X_iload hK (i := 4) 6 kd26_7.2.2.2.2.2.1 rfl ?_
            refine X_callV hK [.int (iI x1), .int (iI x2), .int (iI x3), .int (iI z86), .int (iI x4)] [] lk_X6_50 (c3_wouldFight _ _ _ _ _ S g a0 x1 x2 x3 z86 x4 w1 w2 hs_a0 (by omega) (by omega) (by omega) (by omega) (by omega) ew1 hs_w1 ew2 hs_w2) hs_a0 ⟨by decide, rfl⟩ kd26_7.2.2.2.2.2.2.1 rfl rfl (by simp [Value.category]) (by decide) (by decide) (by decide) (by decide) (fun r109 S111 g110 pr109 qr109 hg110 => ?_)
            obtain ⟨rfl, rfl, z112, rfl, lz112, uz112, k113⟩ := pr109
            refine X_st [.int (iI z112)] rfl ?_
            refine X_if_ne hK 54 (by omega) kd26_7.2.2.2.2.2.2.2.1 (by decide) (fun c114 => ?_) (fun c114 => ?_)
            · refine X_lload hK (i := 5) 1 kd26_8.2.2.2.2.1 rfl ?_
              refine X_lconstE hK (a := 1) (by decide +kernel) kd26_8.2.2.2.2.2.1 ?_
              refine X_iloadn hK (i := 3) 5 kd26_8.2.2.2.2.2.2.1 rfl rfl ?_
              refine X_bipush hK kd26_8.2.2.2.2.2.2.2.1 (by decide) ?_
              refine X_imul hK kd26_8.2.2.2.2.2.2.2.2.1 ?_
              refine X_iload hK (i := 7) 0 kd26_8.2.2.2.2.2.2.2.2.2.1 rfl ?_
              refine X_iadd hK kd26_8.2.2.2.2.2.2.2.2.2.2.1 ?_
              refine X_lshlE hK kd26_8.2.2.2.2.2.2.2.2.2.2.2 ?_
              refine X_lorE hK kd26_9.1 ?_
              refine X_lstore hK (i := 5) [(5, .long (y87 ||| ((iL 1) <<< ((iI ((x3 * 8) + z86)).toInt64 &&& 63)))), (7, .int (iI z86)), (0, .ref a0), (1, .int (iI x1)), (2, .int (iI x2)), (3, .int (iI x3)), (4, .int (iI x4))] kd26_9.2.1 (by decide) rfl ?_
              refine X_iinc hK (i := 7) (z := z86) (n := 1) 1 [(7, .int (iI (z86 + 1))), (5, .long (y87 ||| ((iL 1) <<< ((iI ((x3 * 8) + z86)).toInt64 &&& 63)))), (0, .ref a0), (1, .int (iI x1)), (2, .int (iI x2)), (3, .int (iI x3)), (4, .int (iI x4))] kd26_9.2.2.1 rfl (by decide) rfl ?_
              refine X_goto hK 6 kd26_9.2.2.2.1 (by decide) ?_
              exact ihP103  (z86 + 1) (by omega) (by omega) (y87 ||| ((iL 1) <<< ((iI ((x3 * 8) + z86)).toInt64 &&& 63))) (xCw.hit v104 (by omega) (by omega) (by omega) (Or.inr (Or.inl (k113.mp (by omega)))) (by omega)) (by omega) (by omega)
            · refine X_aloadn hK (i := 0) 2 kd26_7.2.2.2.2.2.2.2.2.1 rfl rfl ?_
              refine X_iloadn hK (i := 3) 5 kd26_7.2.2.2.2.2.2.2.2.2.1 rfl rfl ?_
              refine X_iload hK (i := 7) 0 kd26_7.2.2.2.2.2.2.2.2.2.2.1 rfl ?_
              refine X_iloadn hK (i := 1) 3 kd26_7.2.2.2.2.2.2.2.2.2.2.2 rfl rfl ?_
              refine X_iloadn hK (i := 2) 4 kd26_8.1 rfl rfl ?_
              refine X_iload hK (i := 4) 6 kd26_8.2.1 rfl ?_
              refine X_callV hK [.int (iI x3), .int (iI z86), .int (iI x1), .int (iI x2), .int (iI x4)] [] lk_X6_50 (c3_wouldFight _ _ _ _ _ S g a0 x3 z86 x1 x2 x4 w1 w2 hs_a0 (by omega) (by omega) (by omega) (by omega) (by omega) ew1 hs_w1 ew2 hs_w2) hs_a0 ⟨by decide, rfl⟩ kd26_8.2.2.1 rfl rfl (by simp [Value.category]) (by decide) (by decide) (by decide) (by decide) (fun r115 S117 g116 pr115 qr115 hg116 => ?_)
              obtain ⟨rfl, rfl, z118, rfl, lz118, uz118, k119⟩ := pr115
              refine X_st [.int (iI z118)] rfl ?_
              refine X_if_eq hK 68 (by omega) kd26_8.2.2.2.1 (by decide) (fun c120 => ?_) (fun c120 => ?_)
              · refine X_iinc hK (i := 7) (z := z86) (n := 1) 0 [(7, .int (iI (z86 + 1))), (5, .long y87), (0, .ref a0), (1, .int (iI x1)), (2, .int (iI x2)), (3, .int (iI x3)), (4, .int (iI x4))] kd26_9.2.2.1 rfl (by decide) rfl ?_
                refine X_goto hK 6 kd26_9.2.2.2.1 (by decide) ?_
                exact ihP103  (z86 + 1) (by omega) (by omega) y87 (xCw.miss v104 (by omega) (fun q9 => by rcases q9 with q9 | q9 | q9; omega; (have h8 := k113.mpr q9; omega); (have h8 := k119.mpr q9; omega))) (by omega) (by omega)
              · refine X_lload hK (i := 5) 1 kd26_8.2.2.2.2.1 rfl ?_
                refine X_lconstE hK (a := 1) (by decide +kernel) kd26_8.2.2.2.2.2.1 ?_
                refine X_iloadn hK (i := 3) 5 kd26_8.2.2.2.2.2.2.1 rfl rfl ?_
                refine X_bipush hK kd26_8.2.2.2.2.2.2.2.1 (by decide) ?_
                refine X_imul hK kd26_8.2.2.2.2.2.2.2.2.1 ?_
                refine X_iload hK (i := 7) 0 kd26_8.2.2.2.2.2.2.2.2.2.1 rfl ?_
                refine X_iadd hK kd26_8.2.2.2.2.2.2.2.2.2.2.1 ?_
                refine X_lshlE hK kd26_8.2.2.2.2.2.2.2.2.2.2.2 ?_
                refine X_lorE hK kd26_9.1 ?_
                refine X_lstore hK (i := 5) [(5, .long (y87 ||| ((iL 1) <<< ((iI ((x3 * 8) + z86)).toInt64 &&& 63)))), (7, .int (iI z86)), (0, .ref a0), (1, .int (iI x1)), (2, .int (iI x2)), (3, .int (iI x3)), (4, .int (iI x4))] kd26_9.2.1 (by decide) rfl ?_
                refine X_iinc hK (i := 7) (z := z86) (n := 1) 1 [(7, .int (iI (z86 + 1))), (5, .long (y87 ||| ((iL 1) <<< ((iI ((x3 * 8) + z86)).toInt64 &&& 63)))), (0, .ref a0), (1, .int (iI x1)), (2, .int (iI x2)), (3, .int (iI x3)), (4, .int (iI x4))] kd26_9.2.2.1 rfl (by decide) rfl ?_
                refine X_goto hK 6 kd26_9.2.2.2.1 (by decide) ?_
                exact ihP103  (z86 + 1) (by omega) (by omega) (y87 ||| ((iL 1) <<< ((iI ((x3 * 8) + z86)).toInt64 &&& 63))) (xCw.hit v104 (by omega) (by omega) (by omega) (Or.inr (Or.inr (k119.mp (by omega)))) (by omega)) (by omega) (by omega)
  exact P103 ((24 - 0 : Int).toNat + 1) 0 (by omega) (by omega) (iL 0) xCw.z (by omega) (by omega)

set_option maxHeartbeats 4000000 in
set_option maxRecDepth 100000 in
theorem c3_findClashes (l : Launch) (D : va_G) (kA : Nat → ClassId) (b0 : Nat) (t0 : Nat → Nat) (S : xT) (g : xG) (a0 : Nat) (x1 : Int) (n0 : Int) (w1 : Nat) (w2 : Nat) (w8 : Nat) (hs_a0 : S a0 = some (7, 0)) (hx1 : (-2147483648) ≤ x1 ∧ x1 ≤ 2147483647) (hn0 : 1 ≤ n0 ∧ n0 ≤ 8) (en0 : g a0 0 = .int (iI n0)) (ew1 : g a0 1 = .ref w1) (hs_w1 : S w1 = some (12100, 64)) (ew2 : g a0 2 = .ref w2) (hs_w2 : S w2 = some (12200, 64)) (ew8 : g a0 8 = .ref w8) (hs_w8 : S w8 = some (12802, 64)) : xMt l yX6_findClashes cX6_findClashes 7 none 2 0 0 52 D kA b0 t0 [(12802, 0)] [.ref a0, .int (iI x1)] S g (fun (r : Option Value) (S1 : xT) (g1 : xG) => S = S1 ∧ r = none ∧ (xCm n0 (xv g w1) (xv g w2) x1 (xvl g1 w8) n0 0)) := by
  refine xEnterV (by decide) (by simp [lg_sl, Value.category]) [(0, .ref a0), (1, .int (iI x1))] rfl ?_
  intro K E hK hret _ _ _
  refine X_iconst hK kd26_12.2.2.2.2.2.2.2.2.2.2.2 ?_
  refine X_istoren hK (i := 2) [(2, .int (iI 0)), (0, .ref a0), (1, .int (iI x1))] kd26_13.1 rfl (by decide) rfl ?_
  have P2520 : ∀ (nP2520 : Nat) (g2101 : xG) (_ : xM [(12802, 0)] S g g2101) (z2100 : Int) (_ : 0 ≤ z2100) (_ : z2100 ≤ 8) (_ : xCm n0 (xv g w1) (xv g w2) x1 (xvl g2101 w8) z2100 0) (_ : 24 - z2100 < (nP2520 : Int)), X K E 2 [(2, .int (iI z2100)), (0, .ref a0), (1, .int (iI x1))] [] S g2101 0 0 := by
    intro nP2520
    induction nP2520 with
    | zero => intro g2101 hg2101 z2100 lz2100 uz2100 v2521 mP2520; exact False.elim (by omega)
    | succ nP2520 ihP2520 =>
      intro g2101 hg2101 z2100 lz2100 uz2100 v2521 mP2520
      refine X_iloadn hK (i := 2) 0 kd26_13.2.1 rfl rfl ?_
      refine X_aloadn hK (i := 0) 1 kd26_13.2.2.1 rfl rfl ?_
      refine X_getK hK fl_X6_9_7 hs_a0 ((hg2101 a0 7 0 0 hs_a0 (by decide)).trans en0) kd26_13.2.2.2.1 ?_
      refine X_icmp_ge hK 80 (by omega) (by omega) kd26_13.2.2.2.2.1 (by decide) (fun c2522 => ?_) (fun c2522 => ?_)
      · exact hret _ _ _ _ _ _ kd26_16.2.2.2.2.2.2.2.1 ⟨rfl, rfl, (fun b9 c9 q1 q2 q3 q4 _ => v2521 b9 c9 q1 q2 q3 q4 (Or.inl (by omega)))⟩ (Nat.le_refl _) (Nat.le_refl _)
      · refine X_iconst hK kd26_13.2.2.2.2.2.1 ?_
        refine X_istoren hK (i := 3) [(3, .int (iI 0)), (2, .int (iI z2100)), (0, .ref a0), (1, .int (iI x1))] kd26_13.2.2.2.2.2.2.1 rfl (by decide) rfl ?_
        have P2918 : ∀ (nP2918 : Nat) (g2853 : xG) (_ : xM [(12802, 0)] S g2101 g2853) (z2852 : Int) (_ : 0 ≤ z2852) (_ : z2852 ≤ 8) (_ : xCm n0 (xv g w1) (xv g w2) x1 (xvl g2853 w8) z2100 z2852) (_ : 24 - z2852 < (nP2918 : Int)), X K E 12 [(3, .int (iI z2852)), (2, .int (iI z2100)), (0, .ref a0), (1, .int (iI x1))] [] S g2853 0 0 := by
          intro nP2918
          induction nP2918 with
          | zero => intro g2853 hg2853 z2852 lz2852 uz2852 v2919 mP2918; exact False.elim (by omega)
          | succ nP2918 ihP2918 =>
            intro g2853 hg2853 z2852 lz2852 uz2852 v2919 mP2918
            refine X_iloadn hK (i := 3) 0 kd26_13.2.2.2.2.2.2.2.1 rfl rfl ?_
            refine X_aloadn hK (i := 0) 2 kd26_13.2.2.2.2.2.2.2.2.1 rfl rfl ?_
            refine X_getK hK fl_X6_9_7 hs_a0 ((hg2853 a0 7 0 0 hs_a0 (by decide)).trans ((hg2101 a0 7 0 0 hs_a0 (by decide)).trans en0)) kd26_13.2.2.2.2.2.2.2.2.2.1 ?_
            refine X_icmp_ge hK 74 (by omega) (by omega) kd26_13.2.2.2.2.2.2.2.2.2.2.1 (by decide) (fun c2920 => ?_) (fun c2920 => ?_)
            · refine X_iinc hK (i := 2) (z := z2100) (n := 1) 1 [(2, .int (iI (z2100 + 1))), (3, .int (iI z2852)), (0, .ref a0), (1, .int (iI x1))] kd26_16.2.2.2.2.2.1 rfl (by decide) rfl ?_
              refine X_goto hK 2 kd26_16.2.2.2.2.2.2.1 (by decide) ?_
              refine X_lv [(2, .int (iI (z2100 + 1))), (0, .ref a0), (1, .int (iI x1))] [0, 2, 3] rfl ?_
              exact ihP2520  g2853 (xM.tr (xM.tr xM.rf xLe.rf hg2101 (by decide)) xLe.rf hg2853 (by decide)) (z2100 + 1) (by omega) (by omega) (xCm.row v2919 (by omega)) (by omega)
            · refine X_lconstE hK (a := 0) (by decide +kernel) kd26_13.2.2.2.2.2.2.2.2.2.2.2 ?_
              refine X_lstore hK (i := 4) [(4, .long (iL 0)), (3, .int (iI z2852)), (2, .int (iI z2100)), (0, .ref a0), (1, .int (iI x1))] kd26_14.1 (by decide) rfl ?_
              refine X_iconst hK kd26_14.2.1 ?_
              refine X_istore hK (i := 6) [(6, .int (iI 0)), (4, .long (iL 0)), (3, .int (iI z2852)), (2, .int (iI z2100)), (0, .ref a0), (1, .int (iI x1))] kd26_14.2.2.1 (by decide) rfl ?_
              have P2974 : ∀ (nP2974 : Nat) (z2965 : Int) (_ : 0 ≤ z2965) (_ : z2965 ≤ 8) (y2966 : Int64) (_ : xCb n0 (xv g w1) (xv g w2) x1 z2100 z2852 z2965 y2966) (_ : z2965 ≤ n0) (_ : 24 - z2965 < (nP2974 : Int)), X K E 26 [(6, .int (iI z2965)), (4, .long y2966), (3, .int (iI z2852)), (2, .int (iI z2100)), (0, .ref a0), (1, .int (iI x1))] [] S g2853 0 0 := by
                intro nP2974
                induction nP2974 with
                | zero => intro z2965 lz2965 uz2965 y2966 v2975 v2976 mP2974; exact False.elim (by omega)
                | succ nP2974 ihP2974 =>
                  intro z2965 lz2965 uz2965 y2966 v2975 v2976 mP2974
                  refine X_iload hK (i := 6) 0 kd26_14.2.2.2.1 rfl ?_
                  refine X_aloadn hK (i := 0) 4 kd26_14.2.2.2.2.1 rfl rfl ?_
                  refine X_getK hK fl_X6_9_7 hs_a0 ((hg2853 a0 7 0 0 hs_a0 (by decide)).trans ((hg2101 a0 7 0 0 hs_a0 (by decide)).trans en0)) kd26_14.2.2.2.2.2.1 ?_
                  refine X_icmp_ge hK 55 (by omega) (by omega) kd26_14.2.2.2.2.2.2.1 (by decide) (fun c2977 => ?_) (fun c2977 => ?_)
                  · refine X_aloadn hK (i := 0) 4 kd26_15.2.2.2.2.2.2.1 rfl rfl ?_
                    refine X_getK hK fl_X6_38_7 hs_a0 ((hg2853 a0 7 0 8 hs_a0 (by decide)).trans ((hg2101 a0 7 0 8 hs_a0 (by decide)).trans ew8)) kd26_15.2.2.2.2.2.2.2.1 ?_
                    refine X_iloadn hK (i := 2) 3 kd26_15.2.2.2.2.2.2.2.2.1 rfl rfl ?_
                    refine X_bipush hK kd26_15.2.2.2.2.2.2.2.2.2.1 (by decide) ?_
                    refine X_imul hK kd26_15.2.2.2.2.2.2.2.2.2.2.1 ?_
                    refine X_iloadn hK (i := 3) 2 kd26_15.2.2.2.2.2.2.2.2.2.2.2 rfl rfl ?_
                    refine X_iadd hK kd26_16.1 ?_
                    refine X_lload hK (i := 4) 1 kd26_16.2.1 rfl ?_
                    refine X_last hK hs_w8 (by decide) (by decide) sl_12802 (by omega) (by omega) kd26_16.2.2.1 (fun g2978 hg2978 => ?_)
                    refine X_iinc hK (i := 3) (z := z2852) (n := 1) 2 [(3, .int (iI (z2852 + 1))), (6, .int (iI z2965)), (4, .long y2966), (2, .int (iI z2100)), (0, .ref a0), (1, .int (iI x1))] kd26_16.2.2.2.1 rfl (by decide) rfl ?_
                    refine X_goto hK 12 kd26_16.2.2.2.2.1 (by decide) ?_
                    refine X_lv [(3, .int (iI (z2852 + 1))), (2, .int (iI z2100)), (0, .ref a0), (1, .int (iI x1))] [0, 3, 4, 5] rfl ?_
                    exact ihP2918  g2978 (xM_ua (xM.tr xM.rf xLe.rf hg2853 (by decide)) hg2978 hs_w8 (by decide) (by decide)) (z2852 + 1) (by omega) (by omega) (xCm.s (j := ((z2100 * 8) + z2852)) v2919 (by omega) (by omega) (by omega) (by omega) (by rw [xvl_s hg2978]; exact xCb.to v2975 (by omega)) (fun i9 q1 q2 => xvl_k hg2978 q1 (by omega) q2)) (by omega)
                  · refine X_lload hK (i := 4) 1 kd26_14.2.2.2.2.2.2.2.1 rfl ?_
                    refine X_aloadn hK (i := 0) 4 kd26_14.2.2.2.2.2.2.2.2.1 rfl rfl ?_
                    refine X_iloadn hK (i := 2) 3 kd26_14.2.2.2.2.2.2.2.2.2.1 rfl rfl ?_
                    refine X_iloadn hK (i := 3) 2 kd26_14.2.2.2.2.2.2.2.2.2.2.1 rfl rfl ?_
                    refine X_iload hK (i := 6) 0 kd26_14.2.2.2.2.2.2.2.2.2.2.2 rfl ?_
                    refine X_iloadn hK (i := 1) 5 kd26_15.1 rfl rfl ?_
                    refine X_callV hK [.int (iI z2100), .int (iI z2852), .int (iI z2965), .int (iI x1)] [.long y2966] lk_X6_95 (c3_clashesWith _ _ _ _ _ S g2853 a0 z2100 z2852 z2965 x1 n0 w1 w2 hs_a0 (by omega) (by omega) (by omega) (by omega) (by omega) ((hg2853 a0 7 0 0 hs_a0 (by decide)).trans ((hg2101 a0 7 0 0 hs_a0 (by decide)).trans en0)) ((hg2853 a0 7 0 1 hs_a0 (by decide)).trans ((hg2101 a0 7 0 1 hs_a0 (by decide)).trans ew1)) hs_w1 ((hg2853 a0 7 0 2 hs_a0 (by decide)).trans ((hg2101 a0 7 0 2 hs_a0 (by decide)).trans ew2)) hs_w2) hs_a0 ⟨by decide, rfl⟩ kd26_15.2.1 rfl rfl (by simp [Value.category]) (by decide) (by decide) (by decide) (by decide) (fun r2979 S2981 g2980 pr2979 qr2979 hg2980 => ?_)
                    obtain ⟨rfl, rfl, y2982, rfl, k2983⟩ := pr2979
                    refine X_st [.long y2982, .long y2966] rfl ?_
                    refine X_lorE hK kd26_15.2.2.1 ?_
                    refine X_lstore hK (i := 4) [(4, .long (y2966 ||| y2982)), (6, .int (iI z2965)), (3, .int (iI z2852)), (2, .int (iI z2100)), (0, .ref a0), (1, .int (iI x1))] kd26_15.2.2.2.1 (by decide) rfl ?_
                    refine X_iinc hK (i := 6) (z := z2965) (n := 1) 1 [(6, .int (iI (z2965 + 1))), (4, .long (y2966 ||| y2982)), (3, .int (iI z2852)), (2, .int (iI z2100)), (0, .ref a0), (1, .int (iI x1))] kd26_15.2.2.2.2.1 rfl (by decide) rfl ?_
                    refine X_goto hK 26 kd26_15.2.2.2.2.2.1 (by decide) ?_
                    exact ihP2974  (z2965 + 1) (by omega) (by omega) (y2966 ||| y2982) (xCb.s v2975 (by rw [← (Eq.trans (xv_m hg2853 hs_w1 (by decide) (by decide)) (xv_m hg2101 hs_w1 (by decide) (by decide))), ← (Eq.trans (xv_m hg2853 hs_w2 (by decide) (by decide)) (xv_m hg2101 hs_w2 (by decide) (by decide)))]; exact k2983) (by omega)) (by omega) (by omega)
              exact P2974 ((24 - 0 : Int).toNat + 1) 0 (by omega) (by omega) (iL 0) xCb.z (by omega) (by omega)
        exact P2918 ((24 - 0 : Int).toNat + 1) g2101 xM.rf 0 (by omega) (by omega) v2521 (by omega)
  exact P2520 ((24 - 0 : Int).toNat + 1) g xM.rf 0 (by omega) (by omega) xCm.z (by omega)

set_option maxHeartbeats 4000000 in
set_option maxRecDepth 100000 in
theorem c3_bitCount (l : Launch) (D : va_G) (kA : Nat → ClassId) (b0 : Nat) (t0 : Nat → Nat) (S : xT) (g : xG) (x0 : Int) (hx0 : 0 ≤ x0 ∧ x0 ≤ 254) : xMt l yJ6_bitCount_0f7a4 cJ6_bitCount_0f7a4 1 (some .int) 0 0 0 0 D kA b0 t0 [] [.int (iI x0)] S g (fun (r : Option Value) (S1 : xT) (g1 : xG) => S = S1 ∧ g = g1 ∧ ∃ z : Int, r = some (.int (iI z)) ∧ 0 ≤ z ∧ z ≤ 7 ∧ (z = ((xpop x0.toNat : Nat) : Int))) := by
  refine xEnterI (by decide) (by simp [lg_sl, Value.category]) [(0, .int (iI x0))] rfl ?_
  intro K E hK hret _ _ _
  refine X_iloadn hK (i := 0) 0 kd39_0.1 rfl rfl ?_
  refine X_iloadn hK (i := 0) 0 kd39_0.2.1 rfl rfl ?_
  refine X_iconst hK kd39_0.2.2.1 ?_
  refine X_iushr hK kd39_0.2.2.2.1 (fun z1 ez1 lz1 uz1 => ?_)
  refine X_ldcw hK (n := 1431655765) kd39_0.2.2.2.2.1 m_51_9 (by decide) ?_
  refine X_iand hK kd39_0.2.2.2.2.2.1 (fun z2 ez2 lz2 uz2 => ?_)
  have bz2 := xandB ez2 ⟨lz2, uz2⟩ (by omega)
  refine X_isub hK kd39_0.2.2.2.2.2.2.1 ?_
  refine X_istoren hK (i := 0) [(0, .int (iI (x0 - z2)))] kd39_0.2.2.2.2.2.2.2.1 rfl (by decide) rfl ?_
  refine X_iloadn hK (i := 0) 0 kd39_0.2.2.2.2.2.2.2.2.1 rfl rfl ?_
  refine X_ldcw hK (n := 858993459) kd39_0.2.2.2.2.2.2.2.2.2.1 m_51_10 (by decide) ?_
  refine X_iand hK kd39_0.2.2.2.2.2.2.2.2.2.2.1 (fun z3 ez3 lz3 uz3 => ?_)
  have bz3 := xandB ez3 ⟨lz3, uz3⟩ (by omega)
  refine X_iloadn hK (i := 0) 0 kd39_0.2.2.2.2.2.2.2.2.2.2.2 rfl rfl ?_
  refine X_iconst hK kd39_1.1 ?_
  refine X_iushr hK kd39_1.2.1 (fun z4 ez4 lz4 uz4 => ?_)
  refine X_ldcw hK (n := 858993459) kd39_1.2.2.1 m_51_10 (by decide) ?_
  refine X_iand hK kd39_1.2.2.2.1 (fun z5 ez5 lz5 uz5 => ?_)
  have bz5 := xandB ez5 ⟨lz5, uz5⟩ (by omega)
  refine X_iadd hK kd39_1.2.2.2.2.1 ?_
  refine X_istoren hK (i := 0) [(0, .int (iI (z3 + z5)))] kd39_1.2.2.2.2.2.1 rfl (by decide) rfl ?_
  refine X_iloadn hK (i := 0) 0 kd39_1.2.2.2.2.2.2.1 rfl rfl ?_
  refine X_iloadn hK (i := 0) 0 kd39_1.2.2.2.2.2.2.2.1 rfl rfl ?_
  refine X_iconst hK kd39_1.2.2.2.2.2.2.2.2.1 ?_
  refine X_iushr hK kd39_1.2.2.2.2.2.2.2.2.2.1 (fun z6 ez6 lz6 uz6 => ?_)
  refine X_iadd hK kd39_1.2.2.2.2.2.2.2.2.2.2.1 ?_
  refine X_norm (fun z7 ez7 lz7 uz7 => ?_)
  refine X_ldcw hK (n := 252645135) kd39_1.2.2.2.2.2.2.2.2.2.2.2 m_51_11 (by decide) ?_
  refine X_iand hK kd39_2.1 (fun z8 ez8 lz8 uz8 => ?_)
  have bz8 := xandB ez8 ⟨lz8, uz8⟩ (by omega)
  refine X_istoren hK (i := 0) [(0, .int (iI z8))] kd39_2.2.1 rfl (by decide) rfl ?_
  refine X_iloadn hK (i := 0) 0 kd39_2.2.2.1 rfl rfl ?_
  refine X_iloadn hK (i := 0) 0 kd39_2.2.2.2.1 rfl rfl ?_
  refine X_bipush hK kd39_2.2.2.2.2.1 (by decide) ?_
  refine X_iushr hK kd39_2.2.2.2.2.2.1 (fun z9 ez9 lz9 uz9 => ?_)
  refine X_iadd hK kd39_2.2.2.2.2.2.2.1 ?_
  refine X_norm (fun z10 ez10 lz10 uz10 => ?_)
  refine X_istoren hK (i := 0) [(0, .int (iI z10))] kd39_2.2.2.2.2.2.2.2.1 rfl (by decide) rfl ?_
  refine X_iloadn hK (i := 0) 0 kd39_2.2.2.2.2.2.2.2.2.1 rfl rfl ?_
  refine X_iloadn hK (i := 0) 0 kd39_2.2.2.2.2.2.2.2.2.2.1 rfl rfl ?_
  refine X_bipush hK kd39_2.2.2.2.2.2.2.2.2.2.2.1 (by decide) ?_
  refine X_iushr hK kd39_2.2.2.2.2.2.2.2.2.2.2.2 (fun z11 ez11 lz11 uz11 => ?_)
  refine X_iadd hK kd39_3.1 ?_
  refine X_norm (fun z12 ez12 lz12 uz12 => ?_)
  refine X_istoren hK (i := 0) [(0, .int (iI z12))] kd39_3.2.1 rfl (by decide) rfl ?_
  refine X_iloadn hK (i := 0) 0 kd39_3.2.2.1 rfl rfl ?_
  refine X_bipush hK kd39_3.2.2.2.1 (by decide) ?_
  refine X_iand hK kd39_3.2.2.2.2.1 (fun z13 ez13 lz13 uz13 => ?_)
  have bz13 := xandB ez13 ⟨lz13, uz13⟩ (by omega)
  have qz13 : xBC (iI x0) = iI z13 := (by simp only [xBC, xB1, xB2, xB3, xB4, xB5, xsr, iI_add, iI_sub, ez1, ez2, ez3, ez4, ez5, ez6, ← ez7, ez8, ez9, ← ez10, ez11, ← ez12, ez13]); have bz13 : 0 ≤ z13 ∧ z13 ≤ 7 := ⟨(xandB ez13 ⟨lz13, uz13⟩ (by omega)).1, xBC_le (by omega) ⟨lz13, uz13⟩ qz13⟩
  exact hret _ _ _ _ _ _ _ kd39_3.2.2.2.2.2.1 ⟨rfl, rfl, z13, rfl, (by omega), (by omega), (xbc_pop (by omega) (by omega) qz13)⟩ (Nat.le_refl _) (Nat.le_refl _)

set_option maxHeartbeats 4000000 in
set_option maxRecDepth 100000 in
theorem c3_findRest (l : Launch) (D : va_G) (kA : Nat → ClassId) (b0 : Nat) (t0 : Nat → Nat) (S : xT) (g : xG) (a0 : Nat) (n0 : Int) (w1 : Nat) (w6 : Nat) (hs_a0 : S a0 = some (7, 0)) (hn0 : 1 ≤ n0 ∧ n0 ≤ 8) (en0 : g a0 0 = .int (iI n0)) (ew1 : g a0 1 = .ref w1) (hs_w1 : S w1 = some (12100, 64)) (ew6 : g a0 6 = .ref w6) (hs_w6 : S w6 = some (12600, 256)) : xMt l yX6_findRest cX6_findRest 6 none 1 0 0 20 D kA b0 t0 [(12600, 0)] [.ref a0] S g (fun (r : Option Value) (S1 : xT) (g1 : xG) => S = S1 ∧ r = none ∧ (xRs n0 (xv g w1) (xv g1 w6) ∧ xRb n0 (xv g1 w6) (-1) ∧ xv g1 w6 (((2 ^ n0.toNat : Nat) : Int) - 1) = 0)) := by
  refine xEnterV (by decide) (by simp [lg_sl, Value.category]) [(0, .ref a0)] rfl ?_
  intro K E hK hret _ _ _
  refine X_iconst hK kd39_64.2.2.2.1 ?_
  refine X_aloadn hK (i := 0) 0 kd39_64.2.2.2.2.1 rfl rfl ?_
  refine X_getK hK fl_X6_9_7 hs_a0 en0 kd39_64.2.2.2.2.2.1 ?_
  refine X_ishl hK kd39_64.2.2.2.2.2.2.1 (fun z1 ez1 lz1 uz1 => ?_)
  have bz1 := xshlB 8 ez1 ⟨lz1, uz1⟩ (by omega) (by decide)
  have hPz1 := xshl1 ez1 ⟨lz1, uz1⟩ (by omega)
  refine X_iconst hK kd39_64.2.2.2.2.2.2.2.1 ?_
  refine X_isub hK kd39_64.2.2.2.2.2.2.2.2.1 ?_
  refine X_istoren hK (i := 1) [(1, .int (iI (z1 - 1))), (0, .ref a0)] kd39_64.2.2.2.2.2.2.2.2.2.1 rfl (by decide) rfl ?_
  refine X_aloadn hK (i := 0) 1 kd39_64.2.2.2.2.2.2.2.2.2.2.1 rfl rfl ?_
  refine X_getK hK fl_X6_31_7 hs_a0 ew6 kd39_64.2.2.2.2.2.2.2.2.2.2.2 ?_
  refine X_iloadn hK (i := 1) 0 kd39_65.1 rfl rfl ?_
  refine X_iconst hK kd39_65.2.1 ?_
  refine X_iast hK hs_w6 (by decide) (by decide) sl_12600 (by omega) (by omega) (by omega) (by omega) kd39_65.2.2.1 (fun g2 hg2 => ?_)
  refine X_iloadn hK (i := 1) 0 kd39_65.2.2.2.1 rfl rfl ?_
  refine X_iconst hK kd39_65.2.2.2.2.1 ?_
  refine X_isub hK kd39_65.2.2.2.2.2.1 ?_
  refine X_istoren hK (i := 2) [(2, .int (iI ((z1 - 1) - 1))), (1, .int (iI (z1 - 1))), (0, .ref a0)] kd39_65.2.2.2.2.2.2.1 rfl (by decide) rfl ?_
  have P462 : ∀ (nP462 : Nat) (g371 : xG) (_ : xM [(12600, 0)] S g2 g371) (z370 : Int) (_ : (-1) ≤ z370) (_ : z370 ≤ 254) (_ : xRz n0 (xv g w1) (xv g371 w6) z370) (_ : xRb n0 (xv g371 w6) z370) (_ : xv g371 w6 (z1 - 1) = 0) (_ : z370 + 1 < ((2 ^ n0.toNat : Nat) : Int)) (_ : z370 - (-17) < (nP462 : Int)), X K E 20 [(2, .int (iI z370)), (1, .int (iI (z1 - 1))), (0, .ref a0)] [] S g371 0 0 := by
    intro nP462
    induction nP462 with
    | zero => intro g371 hg371 z370 lz370 uz370 v463 v464 v465 v466 mP462; exact False.elim (by omega)
    | succ nP462 ihP462 =>
      intro g371 hg371 z370 lz370 uz370 v463 v464 v465 v466 mP462
      refine X_iloadn hK (i := 2) 0 kd39_65.2.2.2.2.2.2.2.1 rfl rfl ?_
      refine X_if_lt hK 104 (by omega) kd39_65.2.2.2.2.2.2.2.2.1 (by decide) (fun c467 => ?_) (fun c467 => ?_)
      · exact hret _ _ _ _ _ _ kd39_69.2.2.2.2.2.2.2.1 ⟨rfl, rfl, ⟨xRz.all (xRz.at v463 (by omega)), (fun m9 q1 q2 => v464 m9 (by omega) q2), (by rw [show (((2 ^ n0.toNat : Nat) : Int) - 1) = (z1 - 1) by omega]; exact v465)⟩⟩ (Nat.le_refl _) (Nat.le_refl _)
      · refine X_iloadn hK (i := 2) 0 kd39_65.2.2.2.2.2.2.2.2.2.1 rfl rfl ?_
        refine X_callS hK [.int (iI z370)] [] lk_X6_84 (c3_bitCount _ _ _ _ _ S g371 z370 (by omega)) kd39_65.2.2.2.2.2.2.2.2.2.2.1 rfl rfl (by simp [Value.category]) (by decide) (by decide) (by decide) (by decide) (fun r468 S470 g469 pr468 qr468 hg469 => ?_)
        obtain ⟨rfl, rfl, z471, rfl, lz471, uz471, k472⟩ := pr468
        refine X_st [.int (iI z471)] rfl ?_
        have hpn473 : xpop z370.toNat ≤ n0.toNat := xm_pn ⟨z370.toNat, by omega⟩ ⟨n0.toNat, by omega⟩ (by show z370.toNat < 2 ^ n0.toNat; omega)
        refine X_istoren hK (i := 3) [(3, .int (iI z471)), (2, .int (iI z370)), (1, .int (iI (z1 - 1))), (0, .ref a0)] kd39_65.2.2.2.2.2.2.2.2.2.2.2 rfl (by decide) rfl ?_
        refine X_iconst hK kd39_66.1 ?_
        refine X_istore hK (i := 4) [(4, .int (iI 0)), (3, .int (iI z471)), (2, .int (iI z370)), (1, .int (iI (z1 - 1))), (0, .ref a0)] kd39_66.2.1 (by decide) rfl ?_
        refine X_iconst hK kd39_66.2.2.1 ?_
        refine X_istore hK (i := 5) [(5, .int (iI 0)), (4, .int (iI 0)), (3, .int (iI z471)), (2, .int (iI z370)), (1, .int (iI (z1 - 1))), (0, .ref a0)] kd39_66.2.2.2.1 (by decide) rfl ?_
        have P545 : ∀ (nP545 : Nat) (z533 : Int) (_ : 0 ≤ z533) (_ : z533 ≤ 8) (z534 : Int) (_ : 0 ≤ z534) (_ : z534 ≤ 2295) (_ : xMxr (xv g w1) (xv g371 w6) z370 z471 z533 z534) (_ : 0 ≤ z534 ∧ z534 ≤ 255 * (n0 - ((xpop z370.toNat : Nat) : Int))) (_ : 24 - z533 < (nP545 : Int)), X K E 35 [(5, .int (iI z533)), (4, .int (iI z534)), (3, .int (iI z471)), (2, .int (iI z370)), (1, .int (iI (z1 - 1))), (0, .ref a0)] [] S g371 0 0 := by
          intro nP545
          induction nP545 with
          | zero => intro z533 lz533 uz533 z534 lz534 uz534 v546 v547 mP545; exact False.elim (by omega)
          | succ nP545 ihP545 =>
            intro z533 lz533 uz533 z534 lz534 uz534 v546 v547 mP545
            refine X_iload hK (i := 5) 0 kd39_66.2.2.2.2.1 rfl ?_
            refine X_aloadn hK (i := 0) 5 kd39_66.2.2.2.2.2.1 rfl rfl ?_
            refine X_getK hK fl_X6_9_7 hs_a0 ((hg371 a0 7 0 0 hs_a0 (by decide)).trans ((xs_a hg2 (xne hs_a0 hs_w6 (by decide))).trans en0)) kd39_66.2.2.2.2.2.2.1 ?_
            refine X_icmp_ge hK 90 (by omega) (by omega) kd39_66.2.2.2.2.2.2.2.1 (by decide) (fun c548 => ?_) (fun c548 => ?_)
            · refine X_aloadn hK (i := 0) 5 kd39_69.1 rfl rfl ?_
              refine X_getK hK fl_X6_31_7 hs_a0 ((hg371 a0 7 0 6 hs_a0 (by decide)).trans ((xs_a hg2 (xne hs_a0 hs_w6 (by decide))).trans ew6)) kd39_69.2.1 ?_
              refine X_iloadn hK (i := 2) 3 kd39_69.2.2.1 rfl rfl ?_
              refine X_iload hK (i := 4) 1 kd39_69.2.2.2.1 rfl ?_
              refine X_iast hK hs_w6 (by decide) (by decide) sl_12600 (by omega) (by omega) (by omega) (by omega) kd39_69.2.2.2.2.1 (fun g549 hg549 => ?_)
              refine X_iinc hK (i := 2) (z := z370) (n := (-1)) 3 [(2, .int (iI (z370 + (-1)))), (5, .int (iI z533)), (4, .int (iI z534)), (3, .int (iI z471)), (1, .int (iI (z1 - 1))), (0, .ref a0)] kd39_69.2.2.2.2.2.1 rfl (by decide) rfl ?_
              refine X_goto hK 20 kd39_69.2.2.2.2.2.2.1 (by decide) ?_
              refine X_lv [(2, .int (iI (z370 + (-1)))), (1, .int (iI (z1 - 1))), (0, .ref a0)] [0, 4, 5] rfl ?_
              exact ihP462  g549 (xM_ua (xM.tr xM.rf xLe.rf hg371 (by decide)) hg549 hs_w6 (by decide) (by decide)) (z370 + (-1)) (by omega) (by omega) (xRz.at (xRz.step (b0 := z471) (by omega) v463 (by omega) (by omega) k472 (fun k9 q1 q2 q3 => v546 k9 q1 (by omega) q3) (show xv g549 w6 z370 = z534 from by rw [xv_s hg549 (by omega)]) (fun i9 hi9 h09 => (show xv g549 w6 i9 = xv g371 w6 i9 from by rw [(xv_k (i := i9) hg549 (by omega) (by omega) (by omega))]))) (by omega)) (xRb.s v464 (by omega) (by omega) (show xv g549 w6 z370 = z534 from by rw [xv_s hg549 (by omega)]) (fun i9 hi9 h09 => (show xv g549 w6 i9 = xv g371 w6 i9 from by rw [(xv_k (i := i9) hg549 (by omega) (by omega) (by omega))]))) ((show xv g549 w6 (z1 - 1) = xv g371 w6 (z1 - 1) from by rw [(xv_k (i := (z1 - 1)) hg549 (by omega) (by omega) (by omega))]).trans v465) (by omega) (by omega)
            · refine X_iloadn hK (i := 2) 3 kd39_66.2.2.2.2.2.2.2.2.1 rfl rfl ?_
              refine X_iload hK (i := 5) 0 kd39_66.2.2.2.2.2.2.2.2.2.1 rfl ?_
              refine X_ishr hK kd39_66.2.2.2.2.2.2.2.2.2.2.1 (fun z550 ez550 lz550 uz550 => ?_)
              refine X_iconst hK kd39_66.2.2.2.2.2.2.2.2.2.2.2 ?_
              refine X_iand hK kd39_67.1 (fun z551 ez551 lz551 uz551 => ?_)
              have bz551 := xandB ez551 ⟨lz551, uz551⟩ (by omega)
              have ht552 := xtb_of (m := z370) (c := z533) (by omega) (by omega) ez550 ez551 (by omega)
              refine X_if_ne hK 84 (by omega) kd39_67.2.1 (by decide) (fun c553 => ?_) (fun c553 => ?_)
              · refine X_iinc hK (i := 5) (z := z533) (n := 1) 0 [(5, .int (iI (z533 + 1))), (4, .int (iI z534)), (3, .int (iI z471)), (2, .int (iI z370)), (1, .int (iI (z1 - 1))), (0, .ref a0)] kd39_68.2.2.2.2.2.2.2.2.2.2.1 rfl (by decide) rfl ?_
                refine X_goto hK 35 kd39_68.2.2.2.2.2.2.2.2.2.2.2 (by decide) ?_
                exact ihP545  (z533 + 1) (by omega) (by omega) z534 (by omega) (by omega) (xMxr.skip v546 (by omega)) (by omega) (by omega)
              · refine X_iload hK (i := 4) 1 kd39_67.2.2.1 rfl ?_
                refine X_aloadn hK (i := 0) 5 kd39_67.2.2.2.1 rfl rfl ?_
                refine X_getK hK fl_X6_15_7 hs_a0 ((hg371 a0 7 0 1 hs_a0 (by decide)).trans ((xs_a hg2 (xne hs_a0 hs_w6 (by decide))).trans ew1)) kd39_67.2.2.2.2.1 ?_
                refine X_iloadn hK (i := 3) 2 kd39_67.2.2.2.2.2.1 rfl rfl ?_
                refine X_bipush hK kd39_67.2.2.2.2.2.2.1 (by decide) ?_
                refine X_imul hK kd39_67.2.2.2.2.2.2.2.1 ?_
                refine X_iload hK (i := 5) 0 kd39_67.2.2.2.2.2.2.2.2.1 rfl ?_
                refine X_iadd hK kd39_67.2.2.2.2.2.2.2.2.2.1 ?_
                refine X_iald hK hs_w1 (by decide) sl_12100 (by omega) (by omega) kd39_67.2.2.2.2.2.2.2.2.2.2.1 (fun z554 ez554 lz554 uz554 => ?_)
                have hq555 : xv g371 w1 (8 * z471 + z533) = z554 := (by rw [show 8 * z471 + z533 = ((z471 * 8) + z533) by omega]; exact xv_e (j := ((z471 * 8) + z533)) ez554 (by omega))
                refine X_aloadn hK (i := 0) 5 kd39_67.2.2.2.2.2.2.2.2.2.2.2 rfl rfl ?_
                refine X_getK hK fl_X6_31_7 hs_a0 ((hg371 a0 7 0 6 hs_a0 (by decide)).trans ((xs_a hg2 (xne hs_a0 hs_w6 (by decide))).trans ew6)) kd39_68.1 ?_
                refine X_iloadn hK (i := 2) 3 kd39_68.2.1 rfl rfl ?_
                refine X_iconst hK kd39_68.2.2.1 ?_
                refine X_iload hK (i := 5) 0 kd39_68.2.2.2.1 rfl ?_
                refine X_ishl hK kd39_68.2.2.2.2.1 (fun z556 ez556 lz556 uz556 => ?_)
                have bz556 := xshlB 7 ez556 ⟨lz556, uz556⟩ (by omega) (by decide)
                refine X_ior hK kd39_68.2.2.2.2.2.1 (fun z557 ez557 lz557 uz557 => ?_)
                have bz557 := xiorB 8 ez557 ⟨lz557, uz557⟩ (by omega) (by omega) (by decide)
                have ho558 := xor_of (m := z370) (c := z533) (by omega) (by omega) (by omega) ez556 ez557 (by omega)
                refine X_iald hK hs_w6 (by decide) sl_12600 (by omega) (by omega) kd39_68.2.2.2.2.2.2.1 (fun z559 ez559 lz559 uz559 => ?_)
                have hv560 : xv g371 w6 z557 = z559 := xv_e (j := z557) ez559 (by omega)
                have hb561 := xRb.at v464 (by omega) (by omega) (by omega) (c := z533) (by omega) (by omega) ho558 hv560
                refine X_iadd hK kd39_68.2.2.2.2.2.2.2.1 ?_
                refine X_mmax hK mm_X6_89 ⟨by decide, by simp [Value.category]⟩ (by decide) (by omega) (by omega) kd39_68.2.2.2.2.2.2.2.2.1 (fun z562 ez562 fz562 => ?_)
                have bz562 : 0 ≤ z562 ∧ z562 ≤ 2295 := by omega
                refine X_istore hK (i := 4) [(4, .int (iI z562)), (5, .int (iI z533)), (3, .int (iI z471)), (2, .int (iI z370)), (1, .int (iI (z1 - 1))), (0, .ref a0)] kd39_68.2.2.2.2.2.2.2.2.2.1 (by decide) rfl ?_
                refine X_iinc hK (i := 5) (z := z533) (n := 1) 1 [(5, .int (iI (z533 + 1))), (4, .int (iI z562)), (3, .int (iI z471)), (2, .int (iI z370)), (1, .int (iI (z1 - 1))), (0, .ref a0)] kd39_68.2.2.2.2.2.2.2.2.2.2.1 rfl (by decide) rfl ?_
                refine X_goto hK 35 kd39_68.2.2.2.2.2.2.2.2.2.2.2 (by decide) ?_
                exact ihP545  (z533 + 1) (by omega) (by omega) z562 (by omega) (by omega) (xMxr.s (a := z554) v546 (by omega) (by rw [← (Eq.trans (xv_m hg371 hs_w1 (by decide) (by decide)) (xv_a hg2 (xne hs_w1 hs_w6 (by decide))))]; exact hq555) ho558 hv560 (by omega)) (by omega) (by omega)
        exact P545 ((24 - 0 : Int).toNat + 1) 0 (by omega) (by omega) 0 (by omega) (by omega) xMxr.z (by omega) (by omega)
  exact P462 ((((z1 - 1) - 1) - (-17) : Int).toNat + 1) g2 xM.rf ((z1 - 1) - 1) (by omega) (by omega) (xRz.at (xRz.start (z := (z1 - 1)) (by omega) (by omega) (by have h9 := (show xv g2 w6 (z1 - 1) = 0 from by rw [xv_s hg2 (by omega)]); omega)) (by omega)) (xRb.z (by omega) (by omega) (show xv g2 w6 (z1 - 1) = 0 from by rw [xv_s hg2 (by omega)])) (show xv g2 w6 (z1 - 1) = 0 from by rw [xv_s hg2 (by omega)]) (by omega) (by omega)

set_option maxHeartbeats 4000000 in
set_option maxRecDepth 100000 in
theorem c3_place_8 (l : Launch) (D : va_G) (kA : Nat → ClassId) (b0 : Nat) (t0 : Nat → Nat) (S : xT) (g : xG) (a0 : Nat) (x1 : Int) (x2 : Int) (x3 : Int) (y4 : Int64) (n0 : Int) (w3 : Nat) (m0 : Int) (w1 : Nat) (w2 : Nat) (w5 : Nat) (w6 : Nat) (w8 : Nat) (sq : Int) (hs_a0 : S a0 = some (7, 0)) (hx1 : 8 ≤ x1 ∧ x1 ≤ 8) (hx2 : 0 ≤ x2 ∧ x2 ≤ 255) (hx3 : 0 ≤ x3 ∧ x3 ≤ 2040) (hn0 : 8 ≤ n0 ∧ n0 ≤ 8) (en0 : g a0 0 = .int (iI n0)) (ew3 : g a0 3 = .ref w3) (hs_w3 : S w3 = some (12300, 8)) (hm0 : (-2147483648) ≤ m0 ∧ m0 ≤ 2147483647) (em0 : g a0 9 = .int (iI m0)) (ew1 : g a0 1 = .ref w1) (hs_w1 : S w1 = some (12100, 64)) (ew2 : g a0 2 = .ref w2) (hs_w2 : S w2 = some (12200, 64)) (ew5 : g a0 5 = .ref w5) (hs_w5 : S w5 = some (12500, 8)) (ew6 : g a0 6 = .ref w6) (hs_w6 : S w6 = some (12600, 256)) (ew8 : g a0 8 = .ref w8) (hs_w8 : S w8 = some (12802, 64)) (hp0 : m0 = -1 ∨ xCo n0 (xv g w3)) (hp1 : xRs n0 (xv g w1) (xv g w6) ∧ xRb n0 (xv g w6) (-1) ∧ (xv g w6) (((2 ^ n0.toNat : Nat) : Int) - 1) = 0) (hp2 : xCm n0 (xv g w1) (xv g w2) sq (xvl g w8) n0 0) (hp3 : x2 = ((xmk (xv g w5) 8 : Nat) : Int)) (hp4 : x3 = xps (xv g w1) (xv g w5) 8) (hp5 : xPt n0 (xv g w1) (xv g w2) sq (xv g w5) 8) (hp6 : xBr n0 (xv g w1) (xv g w2) sq (xv g w5) 8 y4) : xMt l yX6_place cX6_place 8 none 0 0 0 0 D kA b0 t0 [(7, 9), (12300, 0)] [.ref a0, .int (iI x1), .int (iI x2), .int (iI x3), .long y4] S g (fun (r : Option Value) (S1 : xT) (g1 : xG) => S = S1 ∧ r = none ∧ (∃ z9 : Int, g1 a0 9 = .int (iI z9) ∧ -2147483648 ≤ z9 ∧ z9 ≤ 2147483647 ∧ (z9 = -1 ∨ xCo n0 (xv g1 w3)) ∧ xD (xAg (xv g w5) 8) n0 (xv g w1) (xv g w2) sq m0 z9 (xv g w3) (xv g1 w3) ∧ ∀ k : Int, 0 ≤ k → k < 8 → xv g1 w5 k = xv g w5 k) ∧ (xFr 12300 S g g1 w3)) := by
  refine xEnterV (by decide) (by simp [lg_sl, Value.category]) [(0, .ref a0), (1, .int (iI x1)), (2, .int (iI x2)), (3, .int (iI x3)), (4, .long y4)] rfl ?_
  intro K E hK hret _ _ _
  refine X_iloadn hK (i := 3) 3 kd30_0.1 rfl rfl ?_
  refine X_aloadn hK (i := 0) 0 kd30_0.2.1 rfl rfl ?_
  refine X_getK hK fl_X6_31_7 hs_a0 ew6 kd30_0.2.2.1 ?_
  refine X_iloadn hK (i := 2) 2 kd30_0.2.2.2.1 rfl rfl ?_
  refine X_iald hK hs_w6 (by decide) sl_12600 (by omega) (by omega) kd30_0.2.2.2.2.1 (fun z1 ez1 lz1 uz1 => ?_)
  have hv2 : xv g w6 x2 = z1 := xv_e (j := x2) ez1 (by omega)
  have hb3 := xpl_r (bn := 8) (by omega) hp5 rfl (by omega) hp1.2.1 hp3 hv2
  refine X_iadd hK kd30_0.2.2.2.2.2.1 ?_
  refine X_aloadn hK (i := 0) 0 kd30_0.2.2.2.2.2.2.1 rfl rfl ?_
  refine X_getK hK fl_X6_42_7 hs_a0 em0 kd30_0.2.2.2.2.2.2.2.1 ?_
  refine X_icmp_gt hK 16 (by omega) (by omega) kd30_0.2.2.2.2.2.2.2.2.1 (by decide) (fun c4 => ?_) (fun c4 => ?_)
  · refine X_iloadn hK (i := 1) 1 kd30_0.2.2.2.2.2.2.2.2.2.2.1 rfl rfl ?_
    refine X_aloadn hK (i := 0) 0 kd30_0.2.2.2.2.2.2.2.2.2.2.2 rfl rfl ?_
    refine X_getK hK fl_X6_9_7 hs_a0 en0 kd30_1.1 ?_
    refine X_icmp_ne hK 62 (by omega) (by omega) kd30_1.2.1 (by decide) (fun c5 => False.elim (by omega)) (fun c5 => ?_)
    refine X_aloadn hK (i := 0) 0 kd30_1.2.2.1 rfl rfl ?_
    refine X_iloadn hK (i := 3) 3 kd30_1.2.2.2.1 rfl rfl ?_
    refine X_puti hK fl_X6_42_7 hs_a0 (by decide) sl_7_9 (by omega) (by omega) kd30_1.2.2.2.2.1 (fun g6 hg6 => ?_)
    refine X_iconst hK kd30_1.2.2.2.2.2.1 ?_
    refine X_istore hK (i := 6) [(6, .int (iI 0)), (0, .ref a0), (1, .int (iI x1)), (2, .int (iI x2)), (3, .int (iI x3)), (4, .long y4)] kd30_1.2.2.2.2.2.2.1 (by decide) rfl ?_
    have P36 : ∀ (nP36 : Nat) (g32 : xG) (_ : xM [(12300, 0)] S g6 g32) (z31 : Int) (_ : 0 ≤ z31) (_ : z31 ≤ 8) (_ : ∀ k, 0 ≤ k → k < z31 → 0 ≤ xv g32 w3 k) (_ : ∀ k, 0 ≤ k → k < z31 → xv g32 w3 k = xv g w5 k) (_ : xFr 12300 S g g32 w3) (_ : 24 - z31 < (nP36 : Int)), X K E 32 [(6, .int (iI z31)), (0, .ref a0), (1, .int (iI x1)), (2, .int (iI x2)), (3, .int (iI x3)), (4, .long y4)] [] S g32 0 0 := by
      intro nP36
      induction nP36 with
      | zero => intro g32 hg32 z31 lz31 uz31 v37 v38 v39 mP36; exact False.elim (by omega)
      | succ nP36 ihP36 =>
        intro g32 hg32 z31 lz31 uz31 v37 v38 v39 mP36
        refine X_iload hK (i := 6) 0 kd30_1.2.2.2.2.2.2.2.1 rfl ?_
        refine X_aloadn hK (i := 0) 1 kd30_1.2.2.2.2.2.2.2.2.1 rfl rfl ?_
        refine X_getK hK fl_X6_9_7 hs_a0 ((hg32 a0 7 0 0 hs_a0 (by decide)).trans ((xs_k hg6 (by decide)).trans en0)) kd30_1.2.2.2.2.2.2.2.2.2.1 ?_
        refine X_icmp_ge hK 61 (by omega) (by omega) kd30_1.2.2.2.2.2.2.2.2.2.2.1 (by decide) (fun c40 => ?_) (fun c40 => ?_)
        · exact hret _ _ _ _ _ _ kd30_2.2.2.2.2.2.2.2.2.2.1 ⟨rfl, rfl, ⟨x3, ((hg32 a0 7 0 9 hs_a0 (by decide)).trans (xs_s hg6)), by omega, by omega, Or.inr (fun k q1 q2 => v37 k q1 (by omega)), (xpl_leaf2 (bn := 8) rfl (by omega) (by omega) hp5 hp4 (by have h9 := xpl_z (bn := 8) (by omega) hp5 rfl (by omega) hp1.2.2 hp3 hv2; omega) (fun k9 q1 q2 => v38 k9 q1 (by omega))), (fun k9 q1 q2 => by rw [(Eq.trans (xv_m hg32 hs_w5 (by decide) (by decide)) (xv_a hg6 (xne hs_w5 hs_a0 (by decide))))])⟩, v39⟩ (Nat.le_refl _) (Nat.le_refl _)
        · refine X_aloadn hK (i := 0) 1 kd30_1.2.2.2.2.2.2.2.2.2.2.2 rfl rfl ?_
          refine X_getK hK fl_X6_22_7 hs_a0 ((hg32 a0 7 0 3 hs_a0 (by decide)).trans ((xs_k hg6 (by decide)).trans ew3)) kd30_2.1 ?_
          refine X_iload hK (i := 6) 0 kd30_2.2.1 rfl ?_
          refine X_aloadn hK (i := 0) 1 kd30_2.2.2.1 rfl rfl ?_
          refine X_getK hK fl_X6_28_7 hs_a0 ((hg32 a0 7 0 5 hs_a0 (by decide)).trans ((xs_k hg6 (by decide)).trans ew5)) kd30_2.2.2.2.1 ?_
          refine X_iload hK (i := 6) 0 kd30_2.2.2.2.2.1 rfl ?_
          refine X_iald hK hs_w5 (by decide) sl_12500 (by omega) (by omega) kd30_2.2.2.2.2.2.1 (fun z41 ez41 lz41 uz41 => ?_)
          have hq42 : xv g w5 z31 = z41 := xv_e (j := z31) (((hg32 _ _ _ _ hs_w5 (by rw [xky_a (by decide)]; decide)).trans (xs_a hg6 (xne hs_w5 hs_a0 (by decide)))).symm.trans ez41) (by omega)
          refine X_iast hK hs_w3 (by decide) (by decide) sl_12300 (by omega) (by omega) (by omega) (by omega) kd30_2.2.2.2.2.2.2.1 (fun g43 hg43 => ?_)
          refine X_iinc hK (i := 6) (z := z31) (n := 1) 0 [(6, .int (iI (z31 + 1))), (0, .ref a0), (1, .int (iI x1)), (2, .int (iI x2)), (3, .int (iI x3)), (4, .long y4)] kd30_2.2.2.2.2.2.2.2.1 rfl (by decide) rfl ?_
          refine X_goto hK 32 kd30_2.2.2.2.2.2.2.2.2.1 (by decide) ?_
          exact ihP36  g43 (xM_ua (xM.tr xM.rf xLe.rf hg32 (by decide)) hg43 hs_w3 (by decide) (by decide)) (z31 + 1) (by omega) (by omega) (xpre (P := fun x => 0 ≤ x) v37 (fun i9 hi9 h09 => (show xv g43 w3 i9 = xv g32 w3 i9 from by rw [(xv_k (i := i9) hg43 (by omega) (by omega) (by omega))])) (by rw [show xv g43 w3 z31 = _ from (show xv g43 w3 z31 = z41 from by rw [xv_s hg43 (by omega)])]; omega)) (fun k9 q1 q2 => by by_cases e9 : k9 = z31; (rw [e9, (show xv g43 w3 z31 = z41 from by rw [xv_s hg43 (by omega)])]; exact hq42.symm); (rw [(show xv g43 w3 k9 = xv g32 w3 k9 from by rw [(xv_k (i := k9) hg43 (by omega) (by omega) (by omega))])]; exact v38 k9 q1 (by omega))) (xFr.w v39 hg43) (by omega)
    exact P36 ((24 - 0 : Int).toNat + 1) g6 xM.rf 0 (by omega) (by omega) (fun k q1 q2 => by omega) (fun k q1 q2 => by omega) (xFr.t xFr.rf hg6 hs_a0 (by decide)) (by omega)
  · exact hret _ _ _ _ _ _ kd30_0.2.2.2.2.2.2.2.2.2.1 ⟨rfl, rfl, ⟨m0, em0, by omega, by omega, hp0, (xpl_prune2 (bn := 8) rfl (by omega) hp1.1 hp3 hp4 hv2 (by omega)), (fun _ _ _ => rfl)⟩, xFr.rf⟩ (Nat.le_refl _) (Nat.le_refl _)

set_option maxHeartbeats 4000000 in
set_option maxRecDepth 100000 in
theorem c3_place_7 (l : Launch) (D : va_G) (kA : Nat → ClassId) (b0 : Nat) (t0 : Nat → Nat) (S : xT) (g : xG) (a0 : Nat) (x1 : Int) (x2 : Int) (x3 : Int) (y4 : Int64) (n0 : Int) (w3 : Nat) (m0 : Int) (w1 : Nat) (w2 : Nat) (w5 : Nat) (w6 : Nat) (w8 : Nat) (sq : Int) (hs_a0 : S a0 = some (7, 0)) (hx1 : 7 ≤ x1 ∧ x1 ≤ 7) (hx2 : 0 ≤ x2 ∧ x2 ≤ 255) (hx3 : 0 ≤ x3 ∧ x3 ≤ 1785) (hn0 : 7 ≤ n0 ∧ n0 ≤ 8) (en0 : g a0 0 = .int (iI n0)) (ew3 : g a0 3 = .ref w3) (hs_w3 : S w3 = some (12300, 8)) (hm0 : (-2147483648) ≤ m0 ∧ m0 ≤ 2147483647) (em0 : g a0 9 = .int (iI m0)) (ew1 : g a0 1 = .ref w1) (hs_w1 : S w1 = some (12100, 64)) (ew2 : g a0 2 = .ref w2) (hs_w2 : S w2 = some (12200, 64)) (ew5 : g a0 5 = .ref w5) (hs_w5 : S w5 = some (12500, 8)) (ew6 : g a0 6 = .ref w6) (hs_w6 : S w6 = some (12600, 256)) (ew8 : g a0 8 = .ref w8) (hs_w8 : S w8 = some (12802, 64)) (hp0 : m0 = -1 ∨ xCo n0 (xv g w3)) (hp1 : xRs n0 (xv g w1) (xv g w6) ∧ xRb n0 (xv g w6) (-1) ∧ (xv g w6) (((2 ^ n0.toNat : Nat) : Int) - 1) = 0) (hp2 : xCm n0 (xv g w1) (xv g w2) sq (xvl g w8) n0 0) (hp3 : x2 = ((xmk (xv g w5) 7 : Nat) : Int)) (hp4 : x3 = xps (xv g w1) (xv g w5) 7) (hp5 : xPt n0 (xv g w1) (xv g w2) sq (xv g w5) 7) (hp6 : xBr n0 (xv g w1) (xv g w2) sq (xv g w5) 7 y4) : xMt l yX6_place cX6_place 8 none 1 0 0 27 D kA b0 t0 [(12500, 0), (7, 9), (12300, 0)] [.ref a0, .int (iI x1), .int (iI x2), .int (iI x3), .long y4] S g (fun (r : Option Value) (S1 : xT) (g1 : xG) => S = S1 ∧ r = none ∧ (∃ z9 : Int, g1 a0 9 = .int (iI z9) ∧ -2147483648 ≤ z9 ∧ z9 ≤ 2147483647 ∧ (z9 = -1 ∨ xCo n0 (xv g1 w3)) ∧ xD (xAg (xv g w5) 7) n0 (xv g w1) (xv g w2) sq m0 z9 (xv g w3) (xv g1 w3) ∧ ∀ k : Int, 0 ≤ k → k < 7 → xv g1 w5 k = xv g w5 k) ∧ (xFr 12300 S g g1 w3)) := by
  refine xEnterV (by decide) (by simp [lg_sl, Value.category]) [(0, .ref a0), (1, .int (iI x1)), (2, .int (iI x2)), (3, .int (iI x3)), (4, .long y4)] rfl ?_
  intro K E hK hret _ _ _
  refine X_iloadn hK (i := 3) 3 kd30_0.1 rfl rfl ?_
  refine X_aloadn hK (i := 0) 0 kd30_0.2.1 rfl rfl ?_
  refine X_getK hK fl_X6_31_7 hs_a0 ew6 kd30_0.2.2.1 ?_
  refine X_iloadn hK (i := 2) 2 kd30_0.2.2.2.1 rfl rfl ?_
  refine X_iald hK hs_w6 (by decide) sl_12600 (by omega) (by omega) kd30_0.2.2.2.2.1 (fun z1 ez1 lz1 uz1 => ?_)
  have hv2 : xv g w6 x2 = z1 := xv_e (j := x2) ez1 (by omega)
  have hb3 := xpl_r (bn := 7) (by omega) hp5 rfl (by omega) hp1.2.1 hp3 hv2
  refine X_iadd hK kd30_0.2.2.2.2.2.1 ?_
  refine X_aloadn hK (i := 0) 0 kd30_0.2.2.2.2.2.2.1 rfl rfl ?_
  refine X_getK hK fl_X6_42_7 hs_a0 em0 kd30_0.2.2.2.2.2.2.2.1 ?_
  refine X_icmp_gt hK 16 (by omega) (by omega) kd30_0.2.2.2.2.2.2.2.2.1 (by decide) (fun c4 => ?_) (fun c4 => ?_)
  · refine X_iloadn hK (i := 1) 1 kd30_0.2.2.2.2.2.2.2.2.2.2.1 rfl rfl ?_
    refine X_aloadn hK (i := 0) 0 kd30_0.2.2.2.2.2.2.2.2.2.2.2 rfl rfl ?_
    refine X_getK hK fl_X6_9_7 hs_a0 en0 kd30_1.1 ?_
    refine X_icmp_ne hK 62 (by omega) (by omega) kd30_1.2.1 (by decide) (fun c5 => ?_) (fun c5 => ?_)
    · refine X_iconst hK kd30_2.2.2.2.2.2.2.2.2.2.2.1 ?_
      refine X_istore hK (i := 6) [(6, .int (iI 0)), (0, .ref a0), (1, .int (iI x1)), (2, .int (iI x2)), (3, .int (iI x3)), (4, .long y4)] kd30_2.2.2.2.2.2.2.2.2.2.2.2 (by decide) rfl ?_
      have P107 : ∀ (nP107 : Nat) (g91 : xG) (_ : xM [(7, 9), (12300, 0), (12500, 0)] S g g91) (z90 : Int) (_ : 0 ≤ z90) (_ : z90 ≤ 8) (q92 : Int) (_ : (-2147483648) ≤ q92) (_ : q92 ≤ 2147483647) (_ : g91 a0 9 = .int (iI q92)) (_ : q92 = -1 ∨ xCo n0 (xv g91 w3)) (_ : xFr 12300 S g g91 w3) (_ : xD (fun u => xAg (xv g w5) 7 u ∧ u 7 < z90) n0 (xv g w1) (xv g w2) sq m0 q92 (xv g w3) (xv g91 w3)) (_ : ∀ k : Int, 0 ≤ k → k < 7 → xv g91 w5 k = xv g w5 k) (_ : 24 - z90 < (nP107 : Int)), X K E 65 [(6, .int (iI z90)), (0, .ref a0), (1, .int (iI x1)), (2, .int (iI x2)), (3, .int (iI x3)), (4, .long y4)] [] S g91 0 0 := by
        intro nP107
        induction nP107 with
        | zero => intro g91 hg91 z90 lz90 uz90 q92 lq92 uq92 eq92 v108 v109 v110 v111 mP107; exact False.elim (by omega)
        | succ nP107 ihP107 =>
          intro g91 hg91 z90 lz90 uz90 q92 lq92 uq92 eq92 v108 v109 v110 v111 mP107
          refine X_iload hK (i := 6) 0 kd30_3.1 rfl ?_
          refine X_aloadn hK (i := 0) 1 kd30_3.2.1 rfl rfl ?_
          refine X_getK hK fl_X6_9_7 hs_a0 ((hg91 a0 7 0 0 hs_a0 (by decide)).trans en0) kd30_3.2.2.1 ?_
          refine X_icmp_ge hK 141 (by omega) (by omega) kd30_3.2.2.2.1 (by decide) (fun c112 => ?_) (fun c112 => ?_)
          · exact hret _ _ _ _ _ _ kd30_6.2.2.2.2.2.2.2.2.2.2.2 ⟨rfl, rfl, ⟨q92, eq92, by omega, by omega, v108, (xpl_e (by omega) (by omega) v110), v111⟩, v109⟩ (Nat.le_refl _) (Nat.le_refl _)
          · refine X_iloadn hK (i := 1) 2 kd30_3.2.2.2.2.1 rfl rfl ?_
            refine X_bipush hK kd30_3.2.2.2.2.2.1 (by decide) ?_
            refine X_imul hK kd30_3.2.2.2.2.2.2.1 ?_
            refine X_iload hK (i := 6) 0 kd30_3.2.2.2.2.2.2.2.1 rfl ?_
            refine X_iadd hK kd30_3.2.2.2.2.2.2.2.2.1 ?_
            refine X_istore hK (i := 7) [(7, .int (iI ((x1 * 8) + z90))), (6, .int (iI z90)), (0, .ref a0), (1, .int (iI x1)), (2, .int (iI x2)), (3, .int (iI x3)), (4, .long y4)] kd30_3.2.2.2.2.2.2.2.2.2.1 (by decide) rfl ?_
            refine X_lload hK (i := 4) 6 kd30_3.2.2.2.2.2.2.2.2.2.2.1 rfl ?_
            refine X_iload hK (i := 7) 0 kd30_3.2.2.2.2.2.2.2.2.2.2.2 rfl ?_
            refine X_lushrE hK kd30_4.1 ?_
            refine X_lconstE hK (a := 1) (by decide +kernel) kd30_4.2.1 ?_
            refine X_landE hK kd30_4.2.2.1 ?_
            refine X_lconstE hK (a := 0) (by decide +kernel) kd30_4.2.2.2.1 ?_
            refine X_lcmpE hK kd30_4.2.2.2.2.1 (fun z113 lz113 uz113 ez113 fz113 => ?_)
            have hx114 : z113 = 0 ↔ xbt y4 (8 * 7 + z90).toNat = false := ez113.trans (by rw [show 8 * 7 + z90 = ((x1 * 8) + z90) by omega]; exact xbt_at y4 (by omega))
            refine X_if_ne hK 135 (by omega) kd30_4.2.2.2.2.2.1 (by decide) (fun c115 => ?_) (fun c115 => ?_)
            · refine X_iinc hK (i := 6) (z := z90) (n := 1) 1 [(6, .int (iI (z90 + 1))), (7, .int (iI ((x1 * 8) + z90))), (0, .ref a0), (1, .int (iI x1)), (2, .int (iI x2)), (3, .int (iI x3)), (4, .long y4)] kd30_6.2.2.2.2.2.2.2.2.2.1 rfl (by decide) rfl ?_
              refine X_goto hK 65 kd30_6.2.2.2.2.2.2.2.2.2.2.1 (by decide) ?_
              refine X_lv [(6, .int (iI (z90 + 1))), (0, .ref a0), (1, .int (iI x1)), (2, .int (iI x2)), (3, .int (iI x3)), (4, .long y4)] [0, 2, 3, 4, 5, 6] rfl ?_
              exact ihP107  g91 (xM.tr xM.rf xLe.rf hg91 (by decide)) (z90 + 1) (by omega) (by omega) q92 (by omega) (by omega) eq92 v108 v109 (xplS (by omega) (by omega) v110 (xpl_bar hp6 (by omega) (by omega) (by have h8 := hx114; cases hb9 : xbt y4 (8 * 7 + z90).toNat with | true => rfl | false => exact absurd (h8.mpr hb9) (by omega)))) v111 (by omega)
            · refine X_aloadn hK (i := 0) 2 kd30_4.2.2.2.2.2.2.1 rfl rfl ?_
              refine X_getK hK fl_X6_28_7 hs_a0 ((hg91 a0 7 0 5 hs_a0 (by decide)).trans ew5) kd30_4.2.2.2.2.2.2.2.1 ?_
              refine X_iloadn hK (i := 1) 3 kd30_4.2.2.2.2.2.2.2.2.1 rfl rfl ?_
              refine X_iload hK (i := 6) 1 kd30_4.2.2.2.2.2.2.2.2.2.1 rfl ?_
              refine X_iast hK hs_w5 (by decide) (by decide) sl_12500 (by omega) (by omega) (by omega) (by omega) kd30_4.2.2.2.2.2.2.2.2.2.2.1 (fun g116 hg116 => ?_)
              refine X_aloadn hK (i := 0) 2 kd30_4.2.2.2.2.2.2.2.2.2.2.2 rfl rfl ?_
              refine X_iloadn hK (i := 1) 3 kd30_5.1 rfl rfl ?_
              refine X_iconst hK kd30_5.2.1 ?_
              refine X_iadd hK kd30_5.2.2.1 ?_
              refine X_iloadn hK (i := 2) 4 kd30_5.2.2.2.1 rfl rfl ?_
              refine X_iconst hK kd30_5.2.2.2.2.1 ?_
              refine X_iload hK (i := 6) 1 kd30_5.2.2.2.2.2.1 rfl ?_
              refine X_ishl hK kd30_5.2.2.2.2.2.2.1 (fun z117 ez117 lz117 uz117 => ?_)
              have bz117 := xshlB 7 ez117 ⟨lz117, uz117⟩ (by omega) (by decide)
              refine X_ior hK kd30_5.2.2.2.2.2.2.2.1 (fun z118 ez118 lz118 uz118 => ?_)
              have bz118 := xiorB 8 ez118 ⟨lz118, uz118⟩ (by omega) (by omega) (by decide)
              refine X_iloadn hK (i := 3) 5 kd30_5.2.2.2.2.2.2.2.2.1 rfl rfl ?_
              refine X_aloadn hK (i := 0) 2 kd30_5.2.2.2.2.2.2.2.2.2.1 rfl rfl ?_
              refine X_getK hK fl_X6_15_7 hs_a0 ((xs_a hg116 (xne hs_a0 hs_w5 (by decide))).trans ((hg91 a0 7 0 1 hs_a0 (by decide)).trans ew1)) kd30_5.2.2.2.2.2.2.2.2.2.2.1 ?_
              refine X_iload hK (i := 7) 0 kd30_5.2.2.2.2.2.2.2.2.2.2.2 rfl ?_
              refine X_iald hK hs_w1 (by decide) sl_12100 (by omega) (by omega) kd30_6.1 (fun z119 ez119 lz119 uz119 => ?_)
              have hq120 : xv g w1 (8 * 7 + z90) = z119 := (by rw [show 8 * 7 + z90 = ((x1 * 8) + z90) by omega]; exact xv_e (j := ((x1 * 8) + z90)) (((xs_a hg116 (xne hs_w1 hs_w5 (by decide))).trans (hg91 _ _ _ _ hs_w1 (by rw [xky_a (by decide)]; decide))).symm.trans ez119) (by omega))
              refine X_iadd hK kd30_6.2.1 ?_
              refine X_lload hK (i := 4) 6 kd30_6.2.2.1 rfl ?_
              refine X_aloadn hK (i := 0) 2 kd30_6.2.2.2.1 rfl rfl ?_
              refine X_getK hK fl_X6_38_7 hs_a0 ((xs_a hg116 (xne hs_a0 hs_w5 (by decide))).trans ((hg91 a0 7 0 8 hs_a0 (by decide)).trans ew8)) kd30_6.2.2.2.2.1 ?_
              refine X_iload hK (i := 7) 0 kd30_6.2.2.2.2.2.1 rfl ?_
              refine X_laldE hK hs_w8 (by decide) sl_12802 (by omega) (by omega) kd30_6.2.2.2.2.2.2.1 (fun y121 ey121 => ?_)
              have hl122 : xvl g w8 (8 * 7 + z90) = y121 := (by rw [show 8 * 7 + z90 = ((x1 * 8) + z90) by omega]; exact xvl_e (j := ((x1 * 8) + z90)) (((xs_a hg116 (xne hs_w8 hs_w5 (by decide))).trans (hg91 _ _ _ _ hs_w8 (by rw [xky_a (by decide)]; decide))).symm.trans ey121))
              refine X_lorE hK kd30_6.2.2.2.2.2.2.2.1 ?_
              refine X_callV hK [.int (iI (x1 + 1)), .int (iI z118), .int (iI (x3 + z119)), .long (y4 ||| y121)] [] lk_X6_80 (c3_place_8 _ _ _ _ _ S g116 a0 (x1 + 1) z118 (x3 + z119) (y4 ||| y121) n0 w3 q92 w1 w2 w5 w6 w8 sq hs_a0 (by omega) (by omega) (by omega) (by omega) ((xs_a hg116 (xne hs_a0 hs_w5 (by decide))).trans ((hg91 a0 7 0 0 hs_a0 (by decide)).trans en0)) ((xs_a hg116 (xne hs_a0 hs_w5 (by decide))).trans ((hg91 a0 7 0 3 hs_a0 (by decide)).trans ew3)) hs_w3 (by omega) ((xs_a hg116 (xne hs_a0 hs_w5 (by decide))).trans eq92) ((xs_a hg116 (xne hs_a0 hs_w5 (by decide))).trans ((hg91 a0 7 0 1 hs_a0 (by decide)).trans ew1)) hs_w1 ((xs_a hg116 (xne hs_a0 hs_w5 (by decide))).trans ((hg91 a0 7 0 2 hs_a0 (by decide)).trans ew2)) hs_w2 ((xs_a hg116 (xne hs_a0 hs_w5 (by decide))).trans ((hg91 a0 7 0 5 hs_a0 (by decide)).trans ew5)) hs_w5 ((xs_a hg116 (xne hs_a0 hs_w5 (by decide))).trans ((hg91 a0 7 0 6 hs_a0 (by decide)).trans ew6)) hs_w6 ((xs_a hg116 (xne hs_a0 hs_w5 (by decide))).trans ((hg91 a0 7 0 8 hs_a0 (by decide)).trans ew8)) hs_w8 (by rw [(xv_a hg116 (xne hs_w3 hs_w5 (by decide)))]; exact v108) (by rw [(Eq.trans (xv_a hg116 (xne hs_w1 hs_w5 (by decide))) (xv_m hg91 hs_w1 (by decide) (by decide))), (Eq.trans (xv_a hg116 (xne hs_w6 hs_w5 (by decide))) (xv_m hg91 hs_w6 (by decide) (by decide)))]; exact hp1) (by rw [(Eq.trans (xv_a hg116 (xne hs_w1 hs_w5 (by decide))) (xv_m hg91 hs_w1 (by decide) (by decide))), (Eq.trans (xv_a hg116 (xne hs_w2 hs_w5 (by decide))) (xv_m hg91 hs_w2 (by decide) (by decide))), (Eq.trans (xvl_a hg116 (xne hs_w8 hs_w5 (by decide))) (xvl_m hg91 hs_w8 (by decide) (by decide)))]; exact hp2) (xpl_t (bn := 7) (by omega) hp5 rfl (by omega) hp6 (by omega) (hx114.mp (by omega)) hp3 ez117 ez118 (by omega) (show xv g116 w5 7 = z90 from by rw [show (7 : Int) = x1 by omega]; exact (show xv g116 w5 x1 = z90 from by rw [xv_s hg116 (by omega)])) (fun k9 q1 q2 => (show xv g116 w5 k9 = xv g91 w5 k9 from by rw [(xv_k (i := k9) hg116 (by omega) (by omega) (by omega))]).trans (v111 k9 q1 q2))) (by rw [(Eq.trans (xv_a hg116 (xne hs_w1 hs_w5 (by decide))) (xv_m hg91 hs_w1 (by decide) (by decide)))]; exact (xpl_p (bn := 7) rfl hp4 hq120 (show xv g116 w5 7 = z90 from by rw [show (7 : Int) = x1 by omega]; exact (show xv g116 w5 x1 = z90 from by rw [xv_s hg116 (by omega)])) (fun k9 q1 q2 => (show xv g116 w5 k9 = xv g91 w5 k9 from by rw [(xv_k (i := k9) hg116 (by omega) (by omega) (by omega))]).trans (v111 k9 q1 q2)))) (by rw [(Eq.trans (xv_a hg116 (xne hs_w1 hs_w5 (by decide))) (xv_m hg91 hs_w1 (by decide) (by decide))), (Eq.trans (xv_a hg116 (xne hs_w2 hs_w5 (by decide))) (xv_m hg91 hs_w2 (by decide) (by decide)))]; exact (xPt.s hp5 hp6 (by omega) (by omega) (hx114.mp (by omega)) (show xv g116 w5 7 = z90 from by rw [show (7 : Int) = x1 by omega]; exact (show xv g116 w5 x1 = z90 from by rw [xv_s hg116 (by omega)])) (fun k9 q1 q2 => (show xv g116 w5 k9 = xv g91 w5 k9 from by rw [(xv_k (i := k9) hg116 (by omega) (by omega) (by omega))]).trans (v111 k9 q1 q2)))) (by rw [(Eq.trans (xv_a hg116 (xne hs_w1 hs_w5 (by decide))) (xv_m hg91 hs_w1 (by decide) (by decide))), (Eq.trans (xv_a hg116 (xne hs_w2 hs_w5 (by decide))) (xv_m hg91 hs_w2 (by decide) (by decide)))]; exact (xBr.s hp6 (by omega) (by rw [← hl122]; exact hp2 7 z90 (by omega) (by omega) (by omega) (by omega) (Or.inl (by omega))) (by omega) (show xv g116 w5 7 = z90 from by rw [show (7 : Int) = x1 by omega]; exact (show xv g116 w5 x1 = z90 from by rw [xv_s hg116 (by omega)])) (fun k9 q1 q2 => (show xv g116 w5 k9 = xv g91 w5 k9 from by rw [(xv_k (i := k9) hg116 (by omega) (by omega) (by omega))]).trans (v111 k9 q1 q2))))) hs_a0 ⟨by decide, rfl⟩ kd30_6.2.2.2.2.2.2.2.2.1 rfl rfl (by simp [Value.category]) (by decide) (by decide) (by decide) (by decide) (fun r123 S125 g124 pr123 qr123 hg124 => ?_)
              obtain ⟨rfl, rfl, k126, k127⟩ := pr123
              refine X_st [] rfl ?_
              obtain ⟨z128, ez128, lz128, uz128, kz128, dz128, tz128⟩ := k126
              refine X_iinc hK (i := 6) (z := z90) (n := 1) 1 [(6, .int (iI (z90 + 1))), (7, .int (iI ((x1 * 8) + z90))), (0, .ref a0), (1, .int (iI x1)), (2, .int (iI x2)), (3, .int (iI x3)), (4, .long y4)] kd30_6.2.2.2.2.2.2.2.2.2.1 rfl (by decide) rfl ?_
              refine X_goto hK 65 kd30_6.2.2.2.2.2.2.2.2.2.2.1 (by decide) ?_
              refine X_lv [(6, .int (iI (z90 + 1))), (0, .ref a0), (1, .int (iI x1)), (2, .int (iI x2)), (3, .int (iI x3)), (4, .long y4)] [0, 2, 3, 4, 5, 6] rfl ?_
              exact ihP107  g124 (xM.tr (xM_ua (xM.tr xM.rf xLe.rf hg91 (by decide)) hg116 hs_w5 (by decide) (by decide)) xLe.rf hg124 (by decide)) (z90 + 1) (by omega) (by omega) z128 (by omega) (by omega) ez128 kz128 (xFr.tr (xFr.t v109 hg116 hs_w5 (by decide)) k127) (xplS (by omega) (by omega) v110 (xpl_in (by omega) (show xv g116 w5 7 = z90 from by rw [show (7 : Int) = x1 by omega]; exact (show xv g116 w5 x1 = z90 from by rw [xv_s hg116 (by omega)])) (fun k9 q1 q2 => (show xv g116 w5 k9 = xv g91 w5 k9 from by rw [(xv_k (i := k9) hg116 (by omega) (by omega) (by omega))]).trans (v111 k9 q1 q2)) (by rw [← (Eq.trans (xv_a hg116 (xne hs_w1 hs_w5 (by decide))) (xv_m hg91 hs_w1 (by decide) (by decide))), ← (Eq.trans (xv_a hg116 (xne hs_w2 hs_w5 (by decide))) (xv_m hg91 hs_w2 (by decide) (by decide))), ← (xv_a hg116 (xne hs_w3 hs_w5 (by decide)))]; exact dz128))) (fun k9 q1 q2 => (tz128 k9 q1 (by omega)).trans ((show xv g116 w5 k9 = xv g91 w5 k9 from by rw [(xv_k (i := k9) hg116 (by omega) (by omega) (by omega))]).trans (v111 k9 q1 q2))) (by omega)
      exact P107 ((24 - 0 : Int).toNat + 1) g xM.rf 0 (by omega) (by omega) m0 (by omega) (by omega) em0 hp0 xFr.rf (xpl_0 (by omega)) (fun _ _ _ => rfl) (by omega)
    · refine X_aloadn hK (i := 0) 0 kd30_1.2.2.1 rfl rfl ?_
      refine X_iloadn hK (i := 3) 3 kd30_1.2.2.2.1 rfl rfl ?_
      refine X_puti hK fl_X6_42_7 hs_a0 (by decide) sl_7_9 (by omega) (by omega) kd30_1.2.2.2.2.1 (fun g129 hg129 => ?_)
      refine X_iconst hK kd30_1.2.2.2.2.2.1 ?_
      refine X_istore hK (i := 6) [(6, .int (iI 0)), (0, .ref a0), (1, .int (iI x1)), (2, .int (iI x2)), (3, .int (iI x3)), (4, .long y4)] kd30_1.2.2.2.2.2.2.1 (by decide) rfl ?_
      have P159 : ∀ (nP159 : Nat) (g155 : xG) (_ : xM [(12300, 0)] S g129 g155) (z154 : Int) (_ : 0 ≤ z154) (_ : z154 ≤ 7) (_ : ∀ k, 0 ≤ k → k < z154 → 0 ≤ xv g155 w3 k) (_ : ∀ k, 0 ≤ k → k < z154 → xv g155 w3 k = xv g w5 k) (_ : xFr 12300 S g g155 w3) (_ : 23 - z154 < (nP159 : Int)), X K E 32 [(6, .int (iI z154)), (0, .ref a0), (1, .int (iI x1)), (2, .int (iI x2)), (3, .int (iI x3)), (4, .long y4)] [] S g155 0 0 := by
        intro nP159
        induction nP159 with
        | zero => intro g155 hg155 z154 lz154 uz154 v160 v161 v162 mP159; exact False.elim (by omega)
        | succ nP159 ihP159 =>
          intro g155 hg155 z154 lz154 uz154 v160 v161 v162 mP159
          refine X_iload hK (i := 6) 0 kd30_1.2.2.2.2.2.2.2.1 rfl ?_
          refine X_aloadn hK (i := 0) 1 kd30_1.2.2.2.2.2.2.2.2.1 rfl rfl ?_
          refine X_getK hK fl_X6_9_7 hs_a0 ((hg155 a0 7 0 0 hs_a0 (by decide)).trans ((xs_k hg129 (by decide)).trans en0)) kd30_1.2.2.2.2.2.2.2.2.2.1 ?_
          refine X_icmp_ge hK 61 (by omega) (by omega) kd30_1.2.2.2.2.2.2.2.2.2.2.1 (by decide) (fun c163 => ?_) (fun c163 => ?_)
          · exact hret _ _ _ _ _ _ kd30_2.2.2.2.2.2.2.2.2.2.1 ⟨rfl, rfl, ⟨x3, ((hg155 a0 7 0 9 hs_a0 (by decide)).trans (xs_s hg129)), by omega, by omega, Or.inr (fun k q1 q2 => v160 k q1 (by omega)), (xpl_leaf2 (bn := 7) rfl (by omega) (by omega) hp5 hp4 (by have h9 := xpl_z (bn := 7) (by omega) hp5 rfl (by omega) hp1.2.2 hp3 hv2; omega) (fun k9 q1 q2 => v161 k9 q1 (by omega))), (fun k9 q1 q2 => by rw [(Eq.trans (xv_m hg155 hs_w5 (by decide) (by decide)) (xv_a hg129 (xne hs_w5 hs_a0 (by decide))))])⟩, v162⟩ (Nat.le_refl _) (Nat.le_refl _)
          · refine X_aloadn hK (i := 0) 1 kd30_1.2.2.2.2.2.2.2.2.2.2.2 rfl rfl ?_
            refine X_getK hK fl_X6_22_7 hs_a0 ((hg155 a0 7 0 3 hs_a0 (by decide)).trans ((xs_k hg129 (by decide)).trans ew3)) kd30_2.1 ?_
            refine X_iload hK (i := 6) 0 kd30_2.2.1 rfl ?_
            refine X_aloadn hK (i := 0) 1 kd30_2.2.2.1 rfl rfl ?_
            refine X_getK hK fl_X6_28_7 hs_a0 ((hg155 a0 7 0 5 hs_a0 (by decide)).trans ((xs_k hg129 (by decide)).trans ew5)) kd30_2.2.2.2.1 ?_
            refine X_iload hK (i := 6) 0 kd30_2.2.2.2.2.1 rfl ?_
            refine X_iald hK hs_w5 (by decide) sl_12500 (by omega) (by omega) kd30_2.2.2.2.2.2.1 (fun z164 ez164 lz164 uz164 => ?_)
            have hq165 : xv g w5 z154 = z164 := xv_e (j := z154) (((hg155 _ _ _ _ hs_w5 (by rw [xky_a (by decide)]; decide)).trans (xs_a hg129 (xne hs_w5 hs_a0 (by decide)))).symm.trans ez164) (by omega)
            refine X_iast hK hs_w3 (by decide) (by decide) sl_12300 (by omega) (by omega) (by omega) (by omega) kd30_2.2.2.2.2.2.2.1 (fun g166 hg166 => ?_)
            refine X_iinc hK (i := 6) (z := z154) (n := 1) 0 [(6, .int (iI (z154 + 1))), (0, .ref a0), (1, .int (iI x1)), (2, .int (iI x2)), (3, .int (iI x3)), (4, .long y4)] kd30_2.2.2.2.2.2.2.2.1 rfl (by decide) rfl ?_
            refine X_goto hK 32 kd30_2.2.2.2.2.2.2.2.2.1 (by decide) ?_
            exact ihP159  g166 (xM_ua (xM.tr xM.rf xLe.rf hg155 (by decide)) hg166 hs_w3 (by decide) (by decide)) (z154 + 1) (by omega) (by omega) (xpre (P := fun x => 0 ≤ x) v160 (fun i9 hi9 h09 => (show xv g166 w3 i9 = xv g155 w3 i9 from by rw [(xv_k (i := i9) hg166 (by omega) (by omega) (by omega))])) (by rw [show xv g166 w3 z154 = _ from (show xv g166 w3 z154 = z164 from by rw [xv_s hg166 (by omega)])]; omega)) (fun k9 q1 q2 => by by_cases e9 : k9 = z154; (rw [e9, (show xv g166 w3 z154 = z164 from by rw [xv_s hg166 (by omega)])]; exact hq165.symm); (rw [(show xv g166 w3 k9 = xv g155 w3 k9 from by rw [(xv_k (i := k9) hg166 (by omega) (by omega) (by omega))])]; exact v161 k9 q1 (by omega))) (xFr.w v162 hg166) (by omega)
      exact P159 ((23 - 0 : Int).toNat + 1) g129 xM.rf 0 (by omega) (by omega) (fun k q1 q2 => by omega) (fun k q1 q2 => by omega) (xFr.t xFr.rf hg129 hs_a0 (by decide)) (by omega)
  · exact hret _ _ _ _ _ _ kd30_0.2.2.2.2.2.2.2.2.2.1 ⟨rfl, rfl, ⟨m0, em0, by omega, by omega, hp0, (xpl_prune2 (bn := 7) rfl (by omega) hp1.1 hp3 hp4 hv2 (by omega)), (fun _ _ _ => rfl)⟩, xFr.rf⟩ (Nat.le_refl _) (Nat.le_refl _)

set_option maxHeartbeats 4000000 in
set_option maxRecDepth 100000 in
theorem c3_place_6 (l : Launch) (D : va_G) (kA : Nat → ClassId) (b0 : Nat) (t0 : Nat → Nat) (S : xT) (g : xG) (a0 : Nat) (x1 : Int) (x2 : Int) (x3 : Int) (y4 : Int64) (n0 : Int) (w3 : Nat) (m0 : Int) (w1 : Nat) (w2 : Nat) (w5 : Nat) (w6 : Nat) (w8 : Nat) (sq : Int) (hs_a0 : S a0 = some (7, 0)) (hx1 : 6 ≤ x1 ∧ x1 ≤ 6) (hx2 : 0 ≤ x2 ∧ x2 ≤ 255) (hx3 : 0 ≤ x3 ∧ x3 ≤ 1530) (hn0 : 6 ≤ n0 ∧ n0 ≤ 8) (en0 : g a0 0 = .int (iI n0)) (ew3 : g a0 3 = .ref w3) (hs_w3 : S w3 = some (12300, 8)) (hm0 : (-2147483648) ≤ m0 ∧ m0 ≤ 2147483647) (em0 : g a0 9 = .int (iI m0)) (ew1 : g a0 1 = .ref w1) (hs_w1 : S w1 = some (12100, 64)) (ew2 : g a0 2 = .ref w2) (hs_w2 : S w2 = some (12200, 64)) (ew5 : g a0 5 = .ref w5) (hs_w5 : S w5 = some (12500, 8)) (ew6 : g a0 6 = .ref w6) (hs_w6 : S w6 = some (12600, 256)) (ew8 : g a0 8 = .ref w8) (hs_w8 : S w8 = some (12802, 64)) (hp0 : m0 = -1 ∨ xCo n0 (xv g w3)) (hp1 : xRs n0 (xv g w1) (xv g w6) ∧ xRb n0 (xv g w6) (-1) ∧ (xv g w6) (((2 ^ n0.toNat : Nat) : Int) - 1) = 0) (hp2 : xCm n0 (xv g w1) (xv g w2) sq (xvl g w8) n0 0) (hp3 : x2 = ((xmk (xv g w5) 6 : Nat) : Int)) (hp4 : x3 = xps (xv g w1) (xv g w5) 6) (hp5 : xPt n0 (xv g w1) (xv g w2) sq (xv g w5) 6) (hp6 : xBr n0 (xv g w1) (xv g w2) sq (xv g w5) 6 y4) : xMt l yX6_place cX6_place 8 none 2 0 0 54 D kA b0 t0 [(12500, 0), (7, 9), (12300, 0)] [.ref a0, .int (iI x1), .int (iI x2), .int (iI x3), .long y4] S g (fun (r : Option Value) (S1 : xT) (g1 : xG) => S = S1 ∧ r = none ∧ (∃ z9 : Int, g1 a0 9 = .int (iI z9) ∧ -2147483648 ≤ z9 ∧ z9 ≤ 2147483647 ∧ (z9 = -1 ∨ xCo n0 (xv g1 w3)) ∧ xD (xAg (xv g w5) 6) n0 (xv g w1) (xv g w2) sq m0 z9 (xv g w3) (xv g1 w3) ∧ ∀ k : Int, 0 ≤ k → k < 6 → xv g1 w5 k = xv g w5 k) ∧ (xFr 12300 S g g1 w3)) := by
  refine xEnterV (by decide) (by simp [lg_sl, Value.category]) [(0, .ref a0), (1, .int (iI x1)), (2, .int (iI x2)), (3, .int (iI x3)), (4, .long y4)] rfl ?_
  intro K E hK hret _ _ _
  refine X_iloadn hK (i := 3) 3 kd30_0.1 rfl rfl ?_
  refine X_aloadn hK (i := 0) 0 kd30_0.2.1 rfl rfl ?_
  refine X_getK hK fl_X6_31_7 hs_a0 ew6 kd30_0.2.2.1 ?_
  refine X_iloadn hK (i := 2) 2 kd30_0.2.2.2.1 rfl rfl ?_
  refine X_iald hK hs_w6 (by decide) sl_12600 (by omega) (by omega) kd30_0.2.2.2.2.1 (fun z1 ez1 lz1 uz1 => ?_)
  have hv2 : xv g w6 x2 = z1 := xv_e (j := x2) ez1 (by omega)
  have hb3 := xpl_r (bn := 6) (by omega) hp5 rfl (by omega) hp1.2.1 hp3 hv2
  refine X_iadd hK kd30_0.2.2.2.2.2.1 ?_
  refine X_aloadn hK (i := 0) 0 kd30_0.2.2.2.2.2.2.1 rfl rfl ?_
  refine X_getK hK fl_X6_42_7 hs_a0 em0 kd30_0.2.2.2.2.2.2.2.1 ?_
  refine X_icmp_gt hK 16 (by omega) (by omega) kd30_0.2.2.2.2.2.2.2.2.1 (by decide) (fun c4 => ?_) (fun c4 => ?_)
  · refine X_iloadn hK (i := 1) 1 kd30_0.2.2.2.2.2.2.2.2.2.2.1 rfl rfl ?_
    refine X_aloadn hK (i := 0) 0 kd30_0.2.2.2.2.2.2.2.2.2.2.2 rfl rfl ?_
    refine X_getK hK fl_X6_9_7 hs_a0 en0 kd30_1.1 ?_
    refine X_icmp_ne hK 62 (by omega) (by omega) kd30_1.2.1 (by decide) (fun c5 => ?_) (fun c5 => ?_)
    · refine X_iconst hK kd30_2.2.2.2.2.2.2.2.2.2.2.1 ?_
      refine X_istore hK (i := 6) [(6, .int (iI 0)), (0, .ref a0), (1, .int (iI x1)), (2, .int (iI x2)), (3, .int (iI x3)), (4, .long y4)] kd30_2.2.2.2.2.2.2.2.2.2.2.2 (by decide) rfl ?_
      have P107 : ∀ (nP107 : Nat) (g91 : xG) (_ : xM [(12500, 0), (7, 9), (12300, 0)] S g g91) (z90 : Int) (_ : 0 ≤ z90) (_ : z90 ≤ 8) (q92 : Int) (_ : (-2147483648) ≤ q92) (_ : q92 ≤ 2147483647) (_ : g91 a0 9 = .int (iI q92)) (_ : q92 = -1 ∨ xCo n0 (xv g91 w3)) (_ : xFr 12300 S g g91 w3) (_ : xD (fun u => xAg (xv g w5) 6 u ∧ u 6 < z90) n0 (xv g w1) (xv g w2) sq m0 q92 (xv g w3) (xv g91 w3)) (_ : ∀ k : Int, 0 ≤ k → k < 6 → xv g91 w5 k = xv g w5 k) (_ : 24 - z90 < (nP107 : Int)), X K E 65 [(6, .int (iI z90)), (0, .ref a0), (1, .int (iI x1)), (2, .int (iI x2)), (3, .int (iI x3)), (4, .long y4)] [] S g91 0 0 := by
        intro nP107
        induction nP107 with
        | zero => intro g91 hg91 z90 lz90 uz90 q92 lq92 uq92 eq92 v108 v109 v110 v111 mP107; exact False.elim (by omega)
        | succ nP107 ihP107 =>
          intro g91 hg91 z90 lz90 uz90 q92 lq92 uq92 eq92 v108 v109 v110 v111 mP107
          refine X_iload hK (i := 6) 0 kd30_3.1 rfl ?_
          refine X_aloadn hK (i := 0) 1 kd30_3.2.1 rfl rfl ?_
          refine X_getK hK fl_X6_9_7 hs_a0 ((hg91 a0 7 0 0 hs_a0 (by decide)).trans en0) kd30_3.2.2.1 ?_
          refine X_icmp_ge hK 141 (by omega) (by omega) kd30_3.2.2.2.1 (by decide) (fun c112 => ?_) (fun c112 => ?_)
          · exact hret _ _ _ _ _ _ kd30_6.2.2.2.2.2.2.2.2.2.2.2 ⟨rfl, rfl, ⟨q92, eq92, by omega, by omega, v108, (xpl_e (by omega) (by omega) v110), v111⟩, v109⟩ (Nat.le_refl _) (Nat.le_refl _)
          · refine X_iloadn hK (i := 1) 2 kd30_3.2.2.2.2.1 rfl rfl ?_
            refine X_bipush hK kd30_3.2.2.2.2.2.1 (by decide) ?_
            refine X_imul hK kd30_3.2.2.2.2.2.2.1 ?_
            refine X_iload hK (i := 6) 0 kd30_3.2.2.2.2.2.2.2.1 rfl ?_
            refine X_iadd hK kd30_3.2.2.2.2.2.2.2.2.1 ?_
            refine X_istore hK (i := 7) [(7, .int (iI ((x1 * 8) + z90))), (6, .int (iI z90)), (0, .ref a0), (1, .int (iI x1)), (2, .int (iI x2)), (3, .int (iI x3)), (4, .long y4)] kd30_3.2.2.2.2.2.2.2.2.2.1 (by decide) rfl ?_
            refine X_lload hK (i := 4) 6 kd30_3.2.2.2.2.2.2.2.2.2.2.1 rfl ?_
            refine X_iload hK (i := 7) 0 kd30_3.2.2.2.2.2.2.2.2.2.2.2 rfl ?_
            refine X_lushrE hK kd30_4.1 ?_
            refine X_lconstE hK (a := 1) (by decide +kernel) kd30_4.2.1 ?_
            refine X_landE hK kd30_4.2.2.1 ?_
            refine X_lconstE hK (a := 0) (by decide +kernel) kd30_4.2.2.2.1 ?_
            refine X_lcmpE hK kd30_4.2.2.2.2.1 (fun z113 lz113 uz113 ez113 fz113 => ?_)
            have hx114 : z113 = 0 ↔ xbt y4 (8 * 6 + z90).toNat = false := ez113.trans (by rw [show 8 * 6 + z90 = ((x1 * 8) + z90) by omega]; exact xbt_at y4 (by omega))
            refine X_if_ne hK 135 (by omega) kd30_4.2.2.2.2.2.1 (by decide) (fun c115 => ?_) (fun c115 => ?_)
            · refine X_iinc hK (i := 6) (z := z90) (n := 1) 1 [(6, .int (iI (z90 + 1))), (7, .int (iI ((x1 * 8) + z90))), (0, .ref a0), (1, .int (iI x1)), (2, .int (iI x2)), (3, .int (iI x3)), (4, .long y4)] kd30_6.2.2.2.2.2.2.2.2.2.1 rfl (by decide) rfl ?_
              refine X_goto hK 65 kd30_6.2.2.2.2.2.2.2.2.2.2.1 (by decide) ?_
              refine X_lv [(6, .int (iI (z90 + 1))), (0, .ref a0), (1, .int (iI x1)), (2, .int (iI x2)), (3, .int (iI x3)), (4, .long y4)] [0, 2, 3, 4, 5, 6] rfl ?_
              exact ihP107  g91 (xM.tr xM.rf xLe.rf hg91 (by decide)) (z90 + 1) (by omega) (by omega) q92 (by omega) (by omega) eq92 v108 v109 (xplS (by omega) (by omega) v110 (xpl_bar hp6 (by omega) (by omega) (by have h8 := hx114; cases hb9 : xbt y4 (8 * 6 + z90).toNat with | true => rfl | false => exact absurd (h8.mpr hb9) (by omega)))) v111 (by omega)
            · refine X_aloadn hK (i := 0) 2 kd30_4.2.2.2.2.2.2.1 rfl rfl ?_
              refine X_getK hK fl_X6_28_7 hs_a0 ((hg91 a0 7 0 5 hs_a0 (by decide)).trans ew5) kd30_4.2.2.2.2.2.2.2.1 ?_
              refine X_iloadn hK (i := 1) 3 kd30_4.2.2.2.2.2.2.2.2.1 rfl rfl ?_
              refine X_iload hK (i := 6) 1 kd30_4.2.2.2.2.2.2.2.2.2.1 rfl ?_
              refine X_iast hK hs_w5 (by decide) (by decide) sl_12500 (by omega) (by omega) (by omega) (by omega) kd30_4.2.2.2.2.2.2.2.2.2.2.1 (fun g116 hg116 => ?_)
              refine X_aloadn hK (i := 0) 2 kd30_4.2.2.2.2.2.2.2.2.2.2.2 rfl rfl ?_
              refine X_iloadn hK (i := 1) 3 kd30_5.1 rfl rfl ?_
              refine X_iconst hK kd30_5.2.1 ?_
              refine X_iadd hK kd30_5.2.2.1 ?_
              refine X_iloadn hK (i := 2) 4 kd30_5.2.2.2.1 rfl rfl ?_
              refine X_iconst hK kd30_5.2.2.2.2.1 ?_
              refine X_iload hK (i := 6) 1 kd30_5.2.2.2.2.2.1 rfl ?_
              refine X_ishl hK kd30_5.2.2.2.2.2.2.1 (fun z117 ez117 lz117 uz117 => ?_)
              have bz117 := xshlB 7 ez117 ⟨lz117, uz117⟩ (by omega) (by decide)
              refine X_ior hK kd30_5.2.2.2.2.2.2.2.1 (fun z118 ez118 lz118 uz118 => ?_)
              have bz118 := xiorB 8 ez118 ⟨lz118, uz118⟩ (by omega) (by omega) (by decide)
              refine X_iloadn hK (i := 3) 5 kd30_5.2.2.2.2.2.2.2.2.1 rfl rfl ?_
              refine X_aloadn hK (i := 0) 2 kd30_5.2.2.2.2.2.2.2.2.2.1 rfl rfl ?_
              refine X_getK hK fl_X6_15_7 hs_a0 ((xs_a hg116 (xne hs_a0 hs_w5 (by decide))).trans ((hg91 a0 7 0 1 hs_a0 (by decide)).trans ew1)) kd30_5.2.2.2.2.2.2.2.2.2.2.1 ?_
              refine X_iload hK (i := 7) 0 kd30_5.2.2.2.2.2.2.2.2.2.2.2 rfl ?_
              refine X_iald hK hs_w1 (by decide) sl_12100 (by omega) (by omega) kd30_6.1 (fun z119 ez119 lz119 uz119 => ?_)
              have hq120 : xv g w1 (8 * 6 + z90) = z119 := (by rw [show 8 * 6 + z90 = ((x1 * 8) + z90) by omega]; exact xv_e (j := ((x1 * 8) + z90)) (((xs_a hg116 (xne hs_w1 hs_w5 (by decide))).trans (hg91 _ _ _ _ hs_w1 (by rw [xky_a (by decide)]; decide))).symm.trans ez119) (by omega))
              refine X_iadd hK kd30_6.2.1 ?_
              refine X_lload hK (i := 4) 6 kd30_6.2.2.1 rfl ?_
              refine X_aloadn hK (i := 0) 2 kd30_6.2.2.2.1 rfl rfl ?_
              refine X_getK hK fl_X6_38_7 hs_a0 ((xs_a hg116 (xne hs_a0 hs_w5 (by decide))).trans ((hg91 a0 7 0 8 hs_a0 (by decide)).trans ew8)) kd30_6.2.2.2.2.1 ?_
              refine X_iload hK (i := 7) 0 kd30_6.2.2.2.2.2.1 rfl ?_
              refine X_laldE hK hs_w8 (by decide) sl_12802 (by omega) (by omega) kd30_6.2.2.2.2.2.2.1 (fun y121 ey121 => ?_)
              have hl122 : xvl g w8 (8 * 6 + z90) = y121 := (by rw [show 8 * 6 + z90 = ((x1 * 8) + z90) by omega]; exact xvl_e (j := ((x1 * 8) + z90)) (((xs_a hg116 (xne hs_w8 hs_w5 (by decide))).trans (hg91 _ _ _ _ hs_w8 (by rw [xky_a (by decide)]; decide))).symm.trans ey121))
              refine X_lorE hK kd30_6.2.2.2.2.2.2.2.1 ?_
              refine X_callV hK [.int (iI (x1 + 1)), .int (iI z118), .int (iI (x3 + z119)), .long (y4 ||| y121)] [] lk_X6_80 (c3_place_7 _ _ _ _ _ S g116 a0 (x1 + 1) z118 (x3 + z119) (y4 ||| y121) n0 w3 q92 w1 w2 w5 w6 w8 sq hs_a0 (by omega) (by omega) (by omega) (by omega) ((xs_a hg116 (xne hs_a0 hs_w5 (by decide))).trans ((hg91 a0 7 0 0 hs_a0 (by decide)).trans en0)) ((xs_a hg116 (xne hs_a0 hs_w5 (by decide))).trans ((hg91 a0 7 0 3 hs_a0 (by decide)).trans ew3)) hs_w3 (by omega) ((xs_a hg116 (xne hs_a0 hs_w5 (by decide))).trans eq92) ((xs_a hg116 (xne hs_a0 hs_w5 (by decide))).trans ((hg91 a0 7 0 1 hs_a0 (by decide)).trans ew1)) hs_w1 ((xs_a hg116 (xne hs_a0 hs_w5 (by decide))).trans ((hg91 a0 7 0 2 hs_a0 (by decide)).trans ew2)) hs_w2 ((xs_a hg116 (xne hs_a0 hs_w5 (by decide))).trans ((hg91 a0 7 0 5 hs_a0 (by decide)).trans ew5)) hs_w5 ((xs_a hg116 (xne hs_a0 hs_w5 (by decide))).trans ((hg91 a0 7 0 6 hs_a0 (by decide)).trans ew6)) hs_w6 ((xs_a hg116 (xne hs_a0 hs_w5 (by decide))).trans ((hg91 a0 7 0 8 hs_a0 (by decide)).trans ew8)) hs_w8 (by rw [(xv_a hg116 (xne hs_w3 hs_w5 (by decide)))]; exact v108) (by rw [(Eq.trans (xv_a hg116 (xne hs_w1 hs_w5 (by decide))) (xv_m hg91 hs_w1 (by decide) (by decide))), (Eq.trans (xv_a hg116 (xne hs_w6 hs_w5 (by decide))) (xv_m hg91 hs_w6 (by decide) (by decide)))]; exact hp1) (by rw [(Eq.trans (xv_a hg116 (xne hs_w1 hs_w5 (by decide))) (xv_m hg91 hs_w1 (by decide) (by decide))), (Eq.trans (xv_a hg116 (xne hs_w2 hs_w5 (by decide))) (xv_m hg91 hs_w2 (by decide) (by decide))), (Eq.trans (xvl_a hg116 (xne hs_w8 hs_w5 (by decide))) (xvl_m hg91 hs_w8 (by decide) (by decide)))]; exact hp2) (xpl_t (bn := 6) (by omega) hp5 rfl (by omega) hp6 (by omega) (hx114.mp (by omega)) hp3 ez117 ez118 (by omega) (show xv g116 w5 6 = z90 from by rw [show (6 : Int) = x1 by omega]; exact (show xv g116 w5 x1 = z90 from by rw [xv_s hg116 (by omega)])) (fun k9 q1 q2 => (show xv g116 w5 k9 = xv g91 w5 k9 from by rw [(xv_k (i := k9) hg116 (by omega) (by omega) (by omega))]).trans (v111 k9 q1 q2))) (by rw [(Eq.trans (xv_a hg116 (xne hs_w1 hs_w5 (by decide))) (xv_m hg91 hs_w1 (by decide) (by decide)))]; exact (xpl_p (bn := 6) rfl hp4 hq120 (show xv g116 w5 6 = z90 from by rw [show (6 : Int) = x1 by omega]; exact (show xv g116 w5 x1 = z90 from by rw [xv_s hg116 (by omega)])) (fun k9 q1 q2 => (show xv g116 w5 k9 = xv g91 w5 k9 from by rw [(xv_k (i := k9) hg116 (by omega) (by omega) (by omega))]).trans (v111 k9 q1 q2)))) (by rw [(Eq.trans (xv_a hg116 (xne hs_w1 hs_w5 (by decide))) (xv_m hg91 hs_w1 (by decide) (by decide))), (Eq.trans (xv_a hg116 (xne hs_w2 hs_w5 (by decide))) (xv_m hg91 hs_w2 (by decide) (by decide)))]; exact (xPt.s hp5 hp6 (by omega) (by omega) (hx114.mp (by omega)) (show xv g116 w5 6 = z90 from by rw [show (6 : Int) = x1 by omega]; exact (show xv g116 w5 x1 = z90 from by rw [xv_s hg116 (by omega)])) (fun k9 q1 q2 => (show xv g116 w5 k9 = xv g91 w5 k9 from by rw [(xv_k (i := k9) hg116 (by omega) (by omega) (by omega))]).trans (v111 k9 q1 q2)))) (by rw [(Eq.trans (xv_a hg116 (xne hs_w1 hs_w5 (by decide))) (xv_m hg91 hs_w1 (by decide) (by decide))), (Eq.trans (xv_a hg116 (xne hs_w2 hs_w5 (by decide))) (xv_m hg91 hs_w2 (by decide) (by decide)))]; exact (xBr.s hp6 (by omega) (by rw [← hl122]; exact hp2 6 z90 (by omega) (by omega) (by omega) (by omega) (Or.inl (by omega))) (by omega) (show xv g116 w5 6 = z90 from by rw [show (6 : Int) = x1 by omega]; exact (show xv g116 w5 x1 = z90 from by rw [xv_s hg116 (by omega)])) (fun k9 q1 q2 => (show xv g116 w5 k9 = xv g91 w5 k9 from by rw [(xv_k (i := k9) hg116 (by omega) (by omega) (by omega))]).trans (v111 k9 q1 q2))))) hs_a0 ⟨by decide, rfl⟩ kd30_6.2.2.2.2.2.2.2.2.1 rfl rfl (by simp [Value.category]) (by decide) (by decide) (by decide) (by decide) (fun r123 S125 g124 pr123 qr123 hg124 => ?_)
              obtain ⟨rfl, rfl, k126, k127⟩ := pr123
              refine X_st [] rfl ?_
              obtain ⟨z128, ez128, lz128, uz128, kz128, dz128, tz128⟩ := k126
              refine X_iinc hK (i := 6) (z := z90) (n := 1) 1 [(6, .int (iI (z90 + 1))), (7, .int (iI ((x1 * 8) + z90))), (0, .ref a0), (1, .int (iI x1)), (2, .int (iI x2)), (3, .int (iI x3)), (4, .long y4)] kd30_6.2.2.2.2.2.2.2.2.2.1 rfl (by decide) rfl ?_
              refine X_goto hK 65 kd30_6.2.2.2.2.2.2.2.2.2.2.1 (by decide) ?_
              refine X_lv [(6, .int (iI (z90 + 1))), (0, .ref a0), (1, .int (iI x1)), (2, .int (iI x2)), (3, .int (iI x3)), (4, .long y4)] [0, 2, 3, 4, 5, 6] rfl ?_
              exact ihP107  g124 (xM.tr (xM_ua (xM.tr xM.rf xLe.rf hg91 (by decide)) hg116 hs_w5 (by decide) (by decide)) xLe.rf hg124 (by decide)) (z90 + 1) (by omega) (by omega) z128 (by omega) (by omega) ez128 kz128 (xFr.tr (xFr.t v109 hg116 hs_w5 (by decide)) k127) (xplS (by omega) (by omega) v110 (xpl_in (by omega) (show xv g116 w5 6 = z90 from by rw [show (6 : Int) = x1 by omega]; exact (show xv g116 w5 x1 = z90 from by rw [xv_s hg116 (by omega)])) (fun k9 q1 q2 => (show xv g116 w5 k9 = xv g91 w5 k9 from by rw [(xv_k (i := k9) hg116 (by omega) (by omega) (by omega))]).trans (v111 k9 q1 q2)) (by rw [← (Eq.trans (xv_a hg116 (xne hs_w1 hs_w5 (by decide))) (xv_m hg91 hs_w1 (by decide) (by decide))), ← (Eq.trans (xv_a hg116 (xne hs_w2 hs_w5 (by decide))) (xv_m hg91 hs_w2 (by decide) (by decide))), ← (xv_a hg116 (xne hs_w3 hs_w5 (by decide)))]; exact dz128))) (fun k9 q1 q2 => (tz128 k9 q1 (by omega)).trans ((show xv g116 w5 k9 = xv g91 w5 k9 from by rw [(xv_k (i := k9) hg116 (by omega) (by omega) (by omega))]).trans (v111 k9 q1 q2))) (by omega)
      exact P107 ((24 - 0 : Int).toNat + 1) g xM.rf 0 (by omega) (by omega) m0 (by omega) (by omega) em0 hp0 xFr.rf (xpl_0 (by omega)) (fun _ _ _ => rfl) (by omega)
    · refine X_aloadn hK (i := 0) 0 kd30_1.2.2.1 rfl rfl ?_
      refine X_iloadn hK (i := 3) 3 kd30_1.2.2.2.1 rfl rfl ?_
      refine X_puti hK fl_X6_42_7 hs_a0 (by decide) sl_7_9 (by omega) (by omega) kd30_1.2.2.2.2.1 (fun g129 hg129 => ?_)
      refine X_iconst hK kd30_1.2.2.2.2.2.1 ?_
      refine X_istore hK (i := 6) [(6, .int (iI 0)), (0, .ref a0), (1, .int (iI x1)), (2, .int (iI x2)), (3, .int (iI x3)), (4, .long y4)] kd30_1.2.2.2.2.2.2.1 (by decide) rfl ?_
      have P159 : ∀ (nP159 : Nat) (g155 : xG) (_ : xM [(12300, 0)] S g129 g155) (z154 : Int) (_ : 0 ≤ z154) (_ : z154 ≤ 6) (_ : ∀ k, 0 ≤ k → k < z154 → 0 ≤ xv g155 w3 k) (_ : ∀ k, 0 ≤ k → k < z154 → xv g155 w3 k = xv g w5 k) (_ : xFr 12300 S g g155 w3) (_ : 22 - z154 < (nP159 : Int)), X K E 32 [(6, .int (iI z154)), (0, .ref a0), (1, .int (iI x1)), (2, .int (iI x2)), (3, .int (iI x3)), (4, .long y4)] [] S g155 0 0 := by
        intro nP159
        induction nP159 with
        | zero => intro g155 hg155 z154 lz154 uz154 v160 v161 v162 mP159; exact False.elim (by omega)
        | succ nP159 ihP159 =>
          intro g155 hg155 z154 lz154 uz154 v160 v161 v162 mP159
          refine X_iload hK (i := 6) 0 kd30_1.2.2.2.2.2.2.2.1 rfl ?_
          refine X_aloadn hK (i := 0) 1 kd30_1.2.2.2.2.2.2.2.2.1 rfl rfl ?_
          refine X_getK hK fl_X6_9_7 hs_a0 ((hg155 a0 7 0 0 hs_a0 (by decide)).trans ((xs_k hg129 (by decide)).trans en0)) kd30_1.2.2.2.2.2.2.2.2.2.1 ?_
          refine X_icmp_ge hK 61 (by omega) (by omega) kd30_1.2.2.2.2.2.2.2.2.2.2.1 (by decide) (fun c163 => ?_) (fun c163 => ?_)
          · exact hret _ _ _ _ _ _ kd30_2.2.2.2.2.2.2.2.2.2.1 ⟨rfl, rfl, ⟨x3, ((hg155 a0 7 0 9 hs_a0 (by decide)).trans (xs_s hg129)), by omega, by omega, Or.inr (fun k q1 q2 => v160 k q1 (by omega)), (xpl_leaf2 (bn := 6) rfl (by omega) (by omega) hp5 hp4 (by have h9 := xpl_z (bn := 6) (by omega) hp5 rfl (by omega) hp1.2.2 hp3 hv2; omega) (fun k9 q1 q2 => v161 k9 q1 (by omega))), (fun k9 q1 q2 => by rw [(Eq.trans (xv_m hg155 hs_w5 (by decide) (by decide)) (xv_a hg129 (xne hs_w5 hs_a0 (by decide))))])⟩, v162⟩ (Nat.le_refl _) (Nat.le_refl _)
          · refine X_aloadn hK (i := 0) 1 kd30_1.2.2.2.2.2.2.2.2.2.2.2 rfl rfl ?_
            refine X_getK hK fl_X6_22_7 hs_a0 ((hg155 a0 7 0 3 hs_a0 (by decide)).trans ((xs_k hg129 (by decide)).trans ew3)) kd30_2.1 ?_
            refine X_iload hK (i := 6) 0 kd30_2.2.1 rfl ?_
            refine X_aloadn hK (i := 0) 1 kd30_2.2.2.1 rfl rfl ?_
            refine X_getK hK fl_X6_28_7 hs_a0 ((hg155 a0 7 0 5 hs_a0 (by decide)).trans ((xs_k hg129 (by decide)).trans ew5)) kd30_2.2.2.2.1 ?_
            refine X_iload hK (i := 6) 0 kd30_2.2.2.2.2.1 rfl ?_
            refine X_iald hK hs_w5 (by decide) sl_12500 (by omega) (by omega) kd30_2.2.2.2.2.2.1 (fun z164 ez164 lz164 uz164 => ?_)
            have hq165 : xv g w5 z154 = z164 := xv_e (j := z154) (((hg155 _ _ _ _ hs_w5 (by rw [xky_a (by decide)]; decide)).trans (xs_a hg129 (xne hs_w5 hs_a0 (by decide)))).symm.trans ez164) (by omega)
            refine X_iast hK hs_w3 (by decide) (by decide) sl_12300 (by omega) (by omega) (by omega) (by omega) kd30_2.2.2.2.2.2.2.1 (fun g166 hg166 => ?_)
            refine X_iinc hK (i := 6) (z := z154) (n := 1) 0 [(6, .int (iI (z154 + 1))), (0, .ref a0), (1, .int (iI x1)), (2, .int (iI x2)), (3, .int (iI x3)), (4, .long y4)] kd30_2.2.2.2.2.2.2.2.1 rfl (by decide) rfl ?_
            refine X_goto hK 32 kd30_2.2.2.2.2.2.2.2.2.1 (by decide) ?_
            exact ihP159  g166 (xM_ua (xM.tr xM.rf xLe.rf hg155 (by decide)) hg166 hs_w3 (by decide) (by decide)) (z154 + 1) (by omega) (by omega) (xpre (P := fun x => 0 ≤ x) v160 (fun i9 hi9 h09 => (show xv g166 w3 i9 = xv g155 w3 i9 from by rw [(xv_k (i := i9) hg166 (by omega) (by omega) (by omega))])) (by rw [show xv g166 w3 z154 = _ from (show xv g166 w3 z154 = z164 from by rw [xv_s hg166 (by omega)])]; omega)) (fun k9 q1 q2 => by by_cases e9 : k9 = z154; (rw [e9, (show xv g166 w3 z154 = z164 from by rw [xv_s hg166 (by omega)])]; exact hq165.symm); (rw [(show xv g166 w3 k9 = xv g155 w3 k9 from by rw [(xv_k (i := k9) hg166 (by omega) (by omega) (by omega))])]; exact v161 k9 q1 (by omega))) (xFr.w v162 hg166) (by omega)
      exact P159 ((22 - 0 : Int).toNat + 1) g129 xM.rf 0 (by omega) (by omega) (fun k q1 q2 => by omega) (fun k q1 q2 => by omega) (xFr.t xFr.rf hg129 hs_a0 (by decide)) (by omega)
  · exact hret _ _ _ _ _ _ kd30_0.2.2.2.2.2.2.2.2.2.1 ⟨rfl, rfl, ⟨m0, em0, by omega, by omega, hp0, (xpl_prune2 (bn := 6) rfl (by omega) hp1.1 hp3 hp4 hv2 (by omega)), (fun _ _ _ => rfl)⟩, xFr.rf⟩ (Nat.le_refl _) (Nat.le_refl _)

set_option maxHeartbeats 4000000 in
set_option maxRecDepth 100000 in
theorem c3_place_5 (l : Launch) (D : va_G) (kA : Nat → ClassId) (b0 : Nat) (t0 : Nat → Nat) (S : xT) (g : xG) (a0 : Nat) (x1 : Int) (x2 : Int) (x3 : Int) (y4 : Int64) (n0 : Int) (w3 : Nat) (m0 : Int) (w1 : Nat) (w2 : Nat) (w5 : Nat) (w6 : Nat) (w8 : Nat) (sq : Int) (hs_a0 : S a0 = some (7, 0)) (hx1 : 5 ≤ x1 ∧ x1 ≤ 5) (hx2 : 0 ≤ x2 ∧ x2 ≤ 255) (hx3 : 0 ≤ x3 ∧ x3 ≤ 1275) (hn0 : 5 ≤ n0 ∧ n0 ≤ 8) (en0 : g a0 0 = .int (iI n0)) (ew3 : g a0 3 = .ref w3) (hs_w3 : S w3 = some (12300, 8)) (hm0 : (-2147483648) ≤ m0 ∧ m0 ≤ 2147483647) (em0 : g a0 9 = .int (iI m0)) (ew1 : g a0 1 = .ref w1) (hs_w1 : S w1 = some (12100, 64)) (ew2 : g a0 2 = .ref w2) (hs_w2 : S w2 = some (12200, 64)) (ew5 : g a0 5 = .ref w5) (hs_w5 : S w5 = some (12500, 8)) (ew6 : g a0 6 = .ref w6) (hs_w6 : S w6 = some (12600, 256)) (ew8 : g a0 8 = .ref w8) (hs_w8 : S w8 = some (12802, 64)) (hp0 : m0 = -1 ∨ xCo n0 (xv g w3)) (hp1 : xRs n0 (xv g w1) (xv g w6) ∧ xRb n0 (xv g w6) (-1) ∧ (xv g w6) (((2 ^ n0.toNat : Nat) : Int) - 1) = 0) (hp2 : xCm n0 (xv g w1) (xv g w2) sq (xvl g w8) n0 0) (hp3 : x2 = ((xmk (xv g w5) 5 : Nat) : Int)) (hp4 : x3 = xps (xv g w1) (xv g w5) 5) (hp5 : xPt n0 (xv g w1) (xv g w2) sq (xv g w5) 5) (hp6 : xBr n0 (xv g w1) (xv g w2) sq (xv g w5) 5 y4) : xMt l yX6_place cX6_place 8 none 3 0 0 81 D kA b0 t0 [(12500, 0), (7, 9), (12300, 0)] [.ref a0, .int (iI x1), .int (iI x2), .int (iI x3), .long y4] S g (fun (r : Option Value) (S1 : xT) (g1 : xG) => S = S1 ∧ r = none ∧ (∃ z9 : Int, g1 a0 9 = .int (iI z9) ∧ -2147483648 ≤ z9 ∧ z9 ≤ 2147483647 ∧ (z9 = -1 ∨ xCo n0 (xv g1 w3)) ∧ xD (xAg (xv g w5) 5) n0 (xv g w1) (xv g w2) sq m0 z9 (xv g w3) (xv g1 w3) ∧ ∀ k : Int, 0 ≤ k → k < 5 → xv g1 w5 k = xv g w5 k) ∧ (xFr 12300 S g g1 w3)) := by
  refine xEnterV (by decide) (by simp [lg_sl, Value.category]) [(0, .ref a0), (1, .int (iI x1)), (2, .int (iI x2)), (3, .int (iI x3)), (4, .long y4)] rfl ?_
  intro K E hK hret _ _ _
  refine X_iloadn hK (i := 3) 3 kd30_0.1 rfl rfl ?_
  refine X_aloadn hK (i := 0) 0 kd30_0.2.1 rfl rfl ?_
  refine X_getK hK fl_X6_31_7 hs_a0 ew6 kd30_0.2.2.1 ?_
  refine X_iloadn hK (i := 2) 2 kd30_0.2.2.2.1 rfl rfl ?_
  refine X_iald hK hs_w6 (by decide) sl_12600 (by omega) (by omega) kd30_0.2.2.2.2.1 (fun z1 ez1 lz1 uz1 => ?_)
  have hv2 : xv g w6 x2 = z1 := xv_e (j := x2) ez1 (by omega)
  have hb3 := xpl_r (bn := 5) (by omega) hp5 rfl (by omega) hp1.2.1 hp3 hv2
  refine X_iadd hK kd30_0.2.2.2.2.2.1 ?_
  refine X_aloadn hK (i := 0) 0 kd30_0.2.2.2.2.2.2.1 rfl rfl ?_
  refine X_getK hK fl_X6_42_7 hs_a0 em0 kd30_0.2.2.2.2.2.2.2.1 ?_
  refine X_icmp_gt hK 16 (by omega) (by omega) kd30_0.2.2.2.2.2.2.2.2.1 (by decide) (fun c4 => ?_) (fun c4 => ?_)
  · refine X_iloadn hK (i := 1) 1 kd30_0.2.2.2.2.2.2.2.2.2.2.1 rfl rfl ?_
    refine X_aloadn hK (i := 0) 0 kd30_0.2.2.2.2.2.2.2.2.2.2.2 rfl rfl ?_
    refine X_getK hK fl_X6_9_7 hs_a0 en0 kd30_1.1 ?_
    refine X_icmp_ne hK 62 (by omega) (by omega) kd30_1.2.1 (by decide) (fun c5 => ?_) (fun c5 => ?_)
    · refine X_iconst hK kd30_2.2.2.2.2.2.2.2.2.2.2.1 ?_
      refine X_istore hK (i := 6) [(6, .int (iI 0)), (0, .ref a0), (1, .int (iI x1)), (2, .int (iI x2)), (3, .int (iI x3)), (4, .long y4)] kd30_2.2.2.2.2.2.2.2.2.2.2.2 (by decide) rfl ?_
      have P107 : ∀ (nP107 : Nat) (g91 : xG) (_ : xM [(12500, 0), (7, 9), (12300, 0)] S g g91) (z90 : Int) (_ : 0 ≤ z90) (_ : z90 ≤ 8) (q92 : Int) (_ : (-2147483648) ≤ q92) (_ : q92 ≤ 2147483647) (_ : g91 a0 9 = .int (iI q92)) (_ : q92 = -1 ∨ xCo n0 (xv g91 w3)) (_ : xFr 12300 S g g91 w3) (_ : xD (fun u => xAg (xv g w5) 5 u ∧ u 5 < z90) n0 (xv g w1) (xv g w2) sq m0 q92 (xv g w3) (xv g91 w3)) (_ : ∀ k : Int, 0 ≤ k → k < 5 → xv g91 w5 k = xv g w5 k) (_ : 24 - z90 < (nP107 : Int)), X K E 65 [(6, .int (iI z90)), (0, .ref a0), (1, .int (iI x1)), (2, .int (iI x2)), (3, .int (iI x3)), (4, .long y4)] [] S g91 0 0 := by
        intro nP107
        induction nP107 with
        | zero => intro g91 hg91 z90 lz90 uz90 q92 lq92 uq92 eq92 v108 v109 v110 v111 mP107; exact False.elim (by omega)
        | succ nP107 ihP107 =>
          intro g91 hg91 z90 lz90 uz90 q92 lq92 uq92 eq92 v108 v109 v110 v111 mP107
          refine X_iload hK (i := 6) 0 kd30_3.1 rfl ?_
          refine X_aloadn hK (i := 0) 1 kd30_3.2.1 rfl rfl ?_
          refine X_getK hK fl_X6_9_7 hs_a0 ((hg91 a0 7 0 0 hs_a0 (by decide)).trans en0) kd30_3.2.2.1 ?_
          refine X_icmp_ge hK 141 (by omega) (by omega) kd30_3.2.2.2.1 (by decide) (fun c112 => ?_) (fun c112 => ?_)
          · exact hret _ _ _ _ _ _ kd30_6.2.2.2.2.2.2.2.2.2.2.2 ⟨rfl, rfl, ⟨q92, eq92, by omega, by omega, v108, (xpl_e (by omega) (by omega) v110), v111⟩, v109⟩ (Nat.le_refl _) (Nat.le_refl _)
          · refine X_iloadn hK (i := 1) 2 kd30_3.2.2.2.2.1 rfl rfl ?_
            refine X_bipush hK kd30_3.2.2.2.2.2.1 (by decide) ?_
            refine X_imul hK kd30_3.2.2.2.2.2.2.1 ?_
            refine X_iload hK (i := 6) 0 kd30_3.2.2.2.2.2.2.2.1 rfl ?_
            refine X_iadd hK kd30_3.2.2.2.2.2.2.2.2.1 ?_
            refine X_istore hK (i := 7) [(7, .int (iI ((x1 * 8) + z90))), (6, .int (iI z90)), (0, .ref a0), (1, .int (iI x1)), (2, .int (iI x2)), (3, .int (iI x3)), (4, .long y4)] kd30_3.2.2.2.2.2.2.2.2.2.1 (by decide) rfl ?_
            refine X_lload hK (i := 4) 6 kd30_3.2.2.2.2.2.2.2.2.2.2.1 rfl ?_
            refine X_iload hK (i := 7) 0 kd30_3.2.2.2.2.2.2.2.2.2.2.2 rfl ?_
            refine X_lushrE hK kd30_4.1 ?_
            refine X_lconstE hK (a := 1) (by decide +kernel) kd30_4.2.1 ?_
            refine X_landE hK kd30_4.2.2.1 ?_
            refine X_lconstE hK (a := 0) (by decide +kernel) kd30_4.2.2.2.1 ?_
            refine X_lcmpE hK kd30_4.2.2.2.2.1 (fun z113 lz113 uz113 ez113 fz113 => ?_)
            have hx114 : z113 = 0 ↔ xbt y4 (8 * 5 + z90).toNat = false := ez113.trans (by rw [show 8 * 5 + z90 = ((x1 * 8) + z90) by omega]; exact xbt_at y4 (by omega))
            refine X_if_ne hK 135 (by omega) kd30_4.2.2.2.2.2.1 (by decide) (fun c115 => ?_) (fun c115 => ?_)
            · refine X_iinc hK (i := 6) (z := z90) (n := 1) 1 [(6, .int (iI (z90 + 1))), (7, .int (iI ((x1 * 8) + z90))), (0, .ref a0), (1, .int (iI x1)), (2, .int (iI x2)), (3, .int (iI x3)), (4, .long y4)] kd30_6.2.2.2.2.2.2.2.2.2.1 rfl (by decide) rfl ?_
              refine X_goto hK 65 kd30_6.2.2.2.2.2.2.2.2.2.2.1 (by decide) ?_
              refine X_lv [(6, .int (iI (z90 + 1))), (0, .ref a0), (1, .int (iI x1)), (2, .int (iI x2)), (3, .int (iI x3)), (4, .long y4)] [0, 2, 3, 4, 5, 6] rfl ?_
              exact ihP107  g91 (xM.tr xM.rf xLe.rf hg91 (by decide)) (z90 + 1) (by omega) (by omega) q92 (by omega) (by omega) eq92 v108 v109 (xplS (by omega) (by omega) v110 (xpl_bar hp6 (by omega) (by omega) (by have h8 := hx114; cases hb9 : xbt y4 (8 * 5 + z90).toNat with | true => rfl | false => exact absurd (h8.mpr hb9) (by omega)))) v111 (by omega)
            · refine X_aloadn hK (i := 0) 2 kd30_4.2.2.2.2.2.2.1 rfl rfl ?_
              refine X_getK hK fl_X6_28_7 hs_a0 ((hg91 a0 7 0 5 hs_a0 (by decide)).trans ew5) kd30_4.2.2.2.2.2.2.2.1 ?_
              refine X_iloadn hK (i := 1) 3 kd30_4.2.2.2.2.2.2.2.2.1 rfl rfl ?_
              refine X_iload hK (i := 6) 1 kd30_4.2.2.2.2.2.2.2.2.2.1 rfl ?_
              refine X_iast hK hs_w5 (by decide) (by decide) sl_12500 (by omega) (by omega) (by omega) (by omega) kd30_4.2.2.2.2.2.2.2.2.2.2.1 (fun g116 hg116 => ?_)
              refine X_aloadn hK (i := 0) 2 kd30_4.2.2.2.2.2.2.2.2.2.2.2 rfl rfl ?_
              refine X_iloadn hK (i := 1) 3 kd30_5.1 rfl rfl ?_
              refine X_iconst hK kd30_5.2.1 ?_
              refine X_iadd hK kd30_5.2.2.1 ?_
              refine X_iloadn hK (i := 2) 4 kd30_5.2.2.2.1 rfl rfl ?_
              refine X_iconst hK kd30_5.2.2.2.2.1 ?_
              refine X_iload hK (i := 6) 1 kd30_5.2.2.2.2.2.1 rfl ?_
              refine X_ishl hK kd30_5.2.2.2.2.2.2.1 (fun z117 ez117 lz117 uz117 => ?_)
              have bz117 := xshlB 7 ez117 ⟨lz117, uz117⟩ (by omega) (by decide)
              refine X_ior hK kd30_5.2.2.2.2.2.2.2.1 (fun z118 ez118 lz118 uz118 => ?_)
              have bz118 := xiorB 8 ez118 ⟨lz118, uz118⟩ (by omega) (by omega) (by decide)
              refine X_iloadn hK (i := 3) 5 kd30_5.2.2.2.2.2.2.2.2.1 rfl rfl ?_
              refine X_aloadn hK (i := 0) 2 kd30_5.2.2.2.2.2.2.2.2.2.1 rfl rfl ?_
              refine X_getK hK fl_X6_15_7 hs_a0 ((xs_a hg116 (xne hs_a0 hs_w5 (by decide))).trans ((hg91 a0 7 0 1 hs_a0 (by decide)).trans ew1)) kd30_5.2.2.2.2.2.2.2.2.2.2.1 ?_
              refine X_iload hK (i := 7) 0 kd30_5.2.2.2.2.2.2.2.2.2.2.2 rfl ?_
              refine X_iald hK hs_w1 (by decide) sl_12100 (by omega) (by omega) kd30_6.1 (fun z119 ez119 lz119 uz119 => ?_)
              have hq120 : xv g w1 (8 * 5 + z90) = z119 := (by rw [show 8 * 5 + z90 = ((x1 * 8) + z90) by omega]; exact xv_e (j := ((x1 * 8) + z90)) (((xs_a hg116 (xne hs_w1 hs_w5 (by decide))).trans (hg91 _ _ _ _ hs_w1 (by rw [xky_a (by decide)]; decide))).symm.trans ez119) (by omega))
              refine X_iadd hK kd30_6.2.1 ?_
              refine X_lload hK (i := 4) 6 kd30_6.2.2.1 rfl ?_
              refine X_aloadn hK (i := 0) 2 kd30_6.2.2.2.1 rfl rfl ?_
              refine X_getK hK fl_X6_38_7 hs_a0 ((xs_a hg116 (xne hs_a0 hs_w5 (by decide))).trans ((hg91 a0 7 0 8 hs_a0 (by decide)).trans ew8)) kd30_6.2.2.2.2.1 ?_
              refine X_iload hK (i := 7) 0 kd30_6.2.2.2.2.2.1 rfl ?_
              refine X_laldE hK hs_w8 (by decide) sl_12802 (by omega) (by omega) kd30_6.2.2.2.2.2.2.1 (fun y121 ey121 => ?_)
              have hl122 : xvl g w8 (8 * 5 + z90) = y121 := (by rw [show 8 * 5 + z90 = ((x1 * 8) + z90) by omega]; exact xvl_e (j := ((x1 * 8) + z90)) (((xs_a hg116 (xne hs_w8 hs_w5 (by decide))).trans (hg91 _ _ _ _ hs_w8 (by rw [xky_a (by decide)]; decide))).symm.trans ey121))
              refine X_lorE hK kd30_6.2.2.2.2.2.2.2.1 ?_
              refine X_callV hK [.int (iI (x1 + 1)), .int (iI z118), .int (iI (x3 + z119)), .long (y4 ||| y121)] [] lk_X6_80 (c3_place_6 _ _ _ _ _ S g116 a0 (x1 + 1) z118 (x3 + z119) (y4 ||| y121) n0 w3 q92 w1 w2 w5 w6 w8 sq hs_a0 (by omega) (by omega) (by omega) (by omega) ((xs_a hg116 (xne hs_a0 hs_w5 (by decide))).trans ((hg91 a0 7 0 0 hs_a0 (by decide)).trans en0)) ((xs_a hg116 (xne hs_a0 hs_w5 (by decide))).trans ((hg91 a0 7 0 3 hs_a0 (by decide)).trans ew3)) hs_w3 (by omega) ((xs_a hg116 (xne hs_a0 hs_w5 (by decide))).trans eq92) ((xs_a hg116 (xne hs_a0 hs_w5 (by decide))).trans ((hg91 a0 7 0 1 hs_a0 (by decide)).trans ew1)) hs_w1 ((xs_a hg116 (xne hs_a0 hs_w5 (by decide))).trans ((hg91 a0 7 0 2 hs_a0 (by decide)).trans ew2)) hs_w2 ((xs_a hg116 (xne hs_a0 hs_w5 (by decide))).trans ((hg91 a0 7 0 5 hs_a0 (by decide)).trans ew5)) hs_w5 ((xs_a hg116 (xne hs_a0 hs_w5 (by decide))).trans ((hg91 a0 7 0 6 hs_a0 (by decide)).trans ew6)) hs_w6 ((xs_a hg116 (xne hs_a0 hs_w5 (by decide))).trans ((hg91 a0 7 0 8 hs_a0 (by decide)).trans ew8)) hs_w8 (by rw [(xv_a hg116 (xne hs_w3 hs_w5 (by decide)))]; exact v108) (by rw [(Eq.trans (xv_a hg116 (xne hs_w1 hs_w5 (by decide))) (xv_m hg91 hs_w1 (by decide) (by decide))), (Eq.trans (xv_a hg116 (xne hs_w6 hs_w5 (by decide))) (xv_m hg91 hs_w6 (by decide) (by decide)))]; exact hp1) (by rw [(Eq.trans (xv_a hg116 (xne hs_w1 hs_w5 (by decide))) (xv_m hg91 hs_w1 (by decide) (by decide))), (Eq.trans (xv_a hg116 (xne hs_w2 hs_w5 (by decide))) (xv_m hg91 hs_w2 (by decide) (by decide))), (Eq.trans (xvl_a hg116 (xne hs_w8 hs_w5 (by decide))) (xvl_m hg91 hs_w8 (by decide) (by decide)))]; exact hp2) (xpl_t (bn := 5) (by omega) hp5 rfl (by omega) hp6 (by omega) (hx114.mp (by omega)) hp3 ez117 ez118 (by omega) (show xv g116 w5 5 = z90 from by rw [show (5 : Int) = x1 by omega]; exact (show xv g116 w5 x1 = z90 from by rw [xv_s hg116 (by omega)])) (fun k9 q1 q2 => (show xv g116 w5 k9 = xv g91 w5 k9 from by rw [(xv_k (i := k9) hg116 (by omega) (by omega) (by omega))]).trans (v111 k9 q1 q2))) (by rw [(Eq.trans (xv_a hg116 (xne hs_w1 hs_w5 (by decide))) (xv_m hg91 hs_w1 (by decide) (by decide)))]; exact (xpl_p (bn := 5) rfl hp4 hq120 (show xv g116 w5 5 = z90 from by rw [show (5 : Int) = x1 by omega]; exact (show xv g116 w5 x1 = z90 from by rw [xv_s hg116 (by omega)])) (fun k9 q1 q2 => (show xv g116 w5 k9 = xv g91 w5 k9 from by rw [(xv_k (i := k9) hg116 (by omega) (by omega) (by omega))]).trans (v111 k9 q1 q2)))) (by rw [(Eq.trans (xv_a hg116 (xne hs_w1 hs_w5 (by decide))) (xv_m hg91 hs_w1 (by decide) (by decide))), (Eq.trans (xv_a hg116 (xne hs_w2 hs_w5 (by decide))) (xv_m hg91 hs_w2 (by decide) (by decide)))]; exact (xPt.s hp5 hp6 (by omega) (by omega) (hx114.mp (by omega)) (show xv g116 w5 5 = z90 from by rw [show (5 : Int) = x1 by omega]; exact (show xv g116 w5 x1 = z90 from by rw [xv_s hg116 (by omega)])) (fun k9 q1 q2 => (show xv g116 w5 k9 = xv g91 w5 k9 from by rw [(xv_k (i := k9) hg116 (by omega) (by omega) (by omega))]).trans (v111 k9 q1 q2)))) (by rw [(Eq.trans (xv_a hg116 (xne hs_w1 hs_w5 (by decide))) (xv_m hg91 hs_w1 (by decide) (by decide))), (Eq.trans (xv_a hg116 (xne hs_w2 hs_w5 (by decide))) (xv_m hg91 hs_w2 (by decide) (by decide)))]; exact (xBr.s hp6 (by omega) (by rw [← hl122]; exact hp2 5 z90 (by omega) (by omega) (by omega) (by omega) (Or.inl (by omega))) (by omega) (show xv g116 w5 5 = z90 from by rw [show (5 : Int) = x1 by omega]; exact (show xv g116 w5 x1 = z90 from by rw [xv_s hg116 (by omega)])) (fun k9 q1 q2 => (show xv g116 w5 k9 = xv g91 w5 k9 from by rw [(xv_k (i := k9) hg116 (by omega) (by omega) (by omega))]).trans (v111 k9 q1 q2))))) hs_a0 ⟨by decide, rfl⟩ kd30_6.2.2.2.2.2.2.2.2.1 rfl rfl (by simp [Value.category]) (by decide) (by decide) (by decide) (by decide) (fun r123 S125 g124 pr123 qr123 hg124 => ?_)
              obtain ⟨rfl, rfl, k126, k127⟩ := pr123
              refine X_st [] rfl ?_
              obtain ⟨z128, ez128, lz128, uz128, kz128, dz128, tz128⟩ := k126
              refine X_iinc hK (i := 6) (z := z90) (n := 1) 1 [(6, .int (iI (z90 + 1))), (7, .int (iI ((x1 * 8) + z90))), (0, .ref a0), (1, .int (iI x1)), (2, .int (iI x2)), (3, .int (iI x3)), (4, .long y4)] kd30_6.2.2.2.2.2.2.2.2.2.1 rfl (by decide) rfl ?_
              refine X_goto hK 65 kd30_6.2.2.2.2.2.2.2.2.2.2.1 (by decide) ?_
              refine X_lv [(6, .int (iI (z90 + 1))), (0, .ref a0), (1, .int (iI x1)), (2, .int (iI x2)), (3, .int (iI x3)), (4, .long y4)] [0, 2, 3, 4, 5, 6] rfl ?_
              exact ihP107  g124 (xM.tr (xM_ua (xM.tr xM.rf xLe.rf hg91 (by decide)) hg116 hs_w5 (by decide) (by decide)) xLe.rf hg124 (by decide)) (z90 + 1) (by omega) (by omega) z128 (by omega) (by omega) ez128 kz128 (xFr.tr (xFr.t v109 hg116 hs_w5 (by decide)) k127) (xplS (by omega) (by omega) v110 (xpl_in (by omega) (show xv g116 w5 5 = z90 from by rw [show (5 : Int) = x1 by omega]; exact (show xv g116 w5 x1 = z90 from by rw [xv_s hg116 (by omega)])) (fun k9 q1 q2 => (show xv g116 w5 k9 = xv g91 w5 k9 from by rw [(xv_k (i := k9) hg116 (by omega) (by omega) (by omega))]).trans (v111 k9 q1 q2)) (by rw [← (Eq.trans (xv_a hg116 (xne hs_w1 hs_w5 (by decide))) (xv_m hg91 hs_w1 (by decide) (by decide))), ← (Eq.trans (xv_a hg116 (xne hs_w2 hs_w5 (by decide))) (xv_m hg91 hs_w2 (by decide) (by decide))), ← (xv_a hg116 (xne hs_w3 hs_w5 (by decide)))]; exact dz128))) (fun k9 q1 q2 => (tz128 k9 q1 (by omega)).trans ((show xv g116 w5 k9 = xv g91 w5 k9 from by rw [(xv_k (i := k9) hg116 (by omega) (by omega) (by omega))]).trans (v111 k9 q1 q2))) (by omega)
      exact P107 ((24 - 0 : Int).toNat + 1) g xM.rf 0 (by omega) (by omega) m0 (by omega) (by omega) em0 hp0 xFr.rf (xpl_0 (by omega)) (fun _ _ _ => rfl) (by omega)
    · refine X_aloadn hK (i := 0) 0 kd30_1.2.2.1 rfl rfl ?_
      refine X_iloadn hK (i := 3) 3 kd30_1.2.2.2.1 rfl rfl ?_
      refine X_puti hK fl_X6_42_7 hs_a0 (by decide) sl_7_9 (by omega) (by omega) kd30_1.2.2.2.2.1 (fun g129 hg129 => ?_)
      refine X_iconst hK kd30_1.2.2.2.2.2.1 ?_
      refine X_istore hK (i := 6) [(6, .int (iI 0)), (0, .ref a0), (1, .int (iI x1)), (2, .int (iI x2)), (3, .int (iI x3)), (4, .long y4)] kd30_1.2.2.2.2.2.2.1 (by decide) rfl ?_
      have P159 : ∀ (nP159 : Nat) (g155 : xG) (_ : xM [(12300, 0)] S g129 g155) (z154 : Int) (_ : 0 ≤ z154) (_ : z154 ≤ 5) (_ : ∀ k, 0 ≤ k → k < z154 → 0 ≤ xv g155 w3 k) (_ : ∀ k, 0 ≤ k → k < z154 → xv g155 w3 k = xv g w5 k) (_ : xFr 12300 S g g155 w3) (_ : 21 - z154 < (nP159 : Int)), X K E 32 [(6, .int (iI z154)), (0, .ref a0), (1, .int (iI x1)), (2, .int (iI x2)), (3, .int (iI x3)), (4, .long y4)] [] S g155 0 0 := by
        intro nP159
        induction nP159 with
        | zero => intro g155 hg155 z154 lz154 uz154 v160 v161 v162 mP159; exact False.elim (by omega)
        | succ nP159 ihP159 =>
          intro g155 hg155 z154 lz154 uz154 v160 v161 v162 mP159
          refine X_iload hK (i := 6) 0 kd30_1.2.2.2.2.2.2.2.1 rfl ?_
          refine X_aloadn hK (i := 0) 1 kd30_1.2.2.2.2.2.2.2.2.1 rfl rfl ?_
          refine X_getK hK fl_X6_9_7 hs_a0 ((hg155 a0 7 0 0 hs_a0 (by decide)).trans ((xs_k hg129 (by decide)).trans en0)) kd30_1.2.2.2.2.2.2.2.2.2.1 ?_
          refine X_icmp_ge hK 61 (by omega) (by omega) kd30_1.2.2.2.2.2.2.2.2.2.2.1 (by decide) (fun c163 => ?_) (fun c163 => ?_)
          · exact hret _ _ _ _ _ _ kd30_2.2.2.2.2.2.2.2.2.2.1 ⟨rfl, rfl, ⟨x3, ((hg155 a0 7 0 9 hs_a0 (by decide)).trans (xs_s hg129)), by omega, by omega, Or.inr (fun k q1 q2 => v160 k q1 (by omega)), (xpl_leaf2 (bn := 5) rfl (by omega) (by omega) hp5 hp4 (by have h9 := xpl_z (bn := 5) (by omega) hp5 rfl (by omega) hp1.2.2 hp3 hv2; omega) (fun k9 q1 q2 => v161 k9 q1 (by omega))), (fun k9 q1 q2 => by rw [(Eq.trans (xv_m hg155 hs_w5 (by decide) (by decide)) (xv_a hg129 (xne hs_w5 hs_a0 (by decide))))])⟩, v162⟩ (Nat.le_refl _) (Nat.le_refl _)
          · refine X_aloadn hK (i := 0) 1 kd30_1.2.2.2.2.2.2.2.2.2.2.2 rfl rfl ?_
            refine X_getK hK fl_X6_22_7 hs_a0 ((hg155 a0 7 0 3 hs_a0 (by decide)).trans ((xs_k hg129 (by decide)).trans ew3)) kd30_2.1 ?_
            refine X_iload hK (i := 6) 0 kd30_2.2.1 rfl ?_
            refine X_aloadn hK (i := 0) 1 kd30_2.2.2.1 rfl rfl ?_
            refine X_getK hK fl_X6_28_7 hs_a0 ((hg155 a0 7 0 5 hs_a0 (by decide)).trans ((xs_k hg129 (by decide)).trans ew5)) kd30_2.2.2.2.1 ?_
            refine X_iload hK (i := 6) 0 kd30_2.2.2.2.2.1 rfl ?_
            refine X_iald hK hs_w5 (by decide) sl_12500 (by omega) (by omega) kd30_2.2.2.2.2.2.1 (fun z164 ez164 lz164 uz164 => ?_)
            have hq165 : xv g w5 z154 = z164 := xv_e (j := z154) (((hg155 _ _ _ _ hs_w5 (by rw [xky_a (by decide)]; decide)).trans (xs_a hg129 (xne hs_w5 hs_a0 (by decide)))).symm.trans ez164) (by omega)
            refine X_iast hK hs_w3 (by decide) (by decide) sl_12300 (by omega) (by omega) (by omega) (by omega) kd30_2.2.2.2.2.2.2.1 (fun g166 hg166 => ?_)
            refine X_iinc hK (i := 6) (z := z154) (n := 1) 0 [(6, .int (iI (z154 + 1))), (0, .ref a0), (1, .int (iI x1)), (2, .int (iI x2)), (3, .int (iI x3)), (4, .long y4)] kd30_2.2.2.2.2.2.2.2.1 rfl (by decide) rfl ?_
            refine X_goto hK 32 kd30_2.2.2.2.2.2.2.2.2.1 (by decide) ?_
            exact ihP159  g166 (xM_ua (xM.tr xM.rf xLe.rf hg155 (by decide)) hg166 hs_w3 (by decide) (by decide)) (z154 + 1) (by omega) (by omega) (xpre (P := fun x => 0 ≤ x) v160 (fun i9 hi9 h09 => (show xv g166 w3 i9 = xv g155 w3 i9 from by rw [(xv_k (i := i9) hg166 (by omega) (by omega) (by omega))])) (by rw [show xv g166 w3 z154 = _ from (show xv g166 w3 z154 = z164 from by rw [xv_s hg166 (by omega)])]; omega)) (fun k9 q1 q2 => by by_cases e9 : k9 = z154; (rw [e9, (show xv g166 w3 z154 = z164 from by rw [xv_s hg166 (by omega)])]; exact hq165.symm); (rw [(show xv g166 w3 k9 = xv g155 w3 k9 from by rw [(xv_k (i := k9) hg166 (by omega) (by omega) (by omega))])]; exact v161 k9 q1 (by omega))) (xFr.w v162 hg166) (by omega)
      exact P159 ((21 - 0 : Int).toNat + 1) g129 xM.rf 0 (by omega) (by omega) (fun k q1 q2 => by omega) (fun k q1 q2 => by omega) (xFr.t xFr.rf hg129 hs_a0 (by decide)) (by omega)
  · exact hret _ _ _ _ _ _ kd30_0.2.2.2.2.2.2.2.2.2.1 ⟨rfl, rfl, ⟨m0, em0, by omega, by omega, hp0, (xpl_prune2 (bn := 5) rfl (by omega) hp1.1 hp3 hp4 hv2 (by omega)), (fun _ _ _ => rfl)⟩, xFr.rf⟩ (Nat.le_refl _) (Nat.le_refl _)

set_option maxHeartbeats 4000000 in
set_option maxRecDepth 100000 in
theorem c3_place_4 (l : Launch) (D : va_G) (kA : Nat → ClassId) (b0 : Nat) (t0 : Nat → Nat) (S : xT) (g : xG) (a0 : Nat) (x1 : Int) (x2 : Int) (x3 : Int) (y4 : Int64) (n0 : Int) (w3 : Nat) (m0 : Int) (w1 : Nat) (w2 : Nat) (w5 : Nat) (w6 : Nat) (w8 : Nat) (sq : Int) (hs_a0 : S a0 = some (7, 0)) (hx1 : 4 ≤ x1 ∧ x1 ≤ 4) (hx2 : 0 ≤ x2 ∧ x2 ≤ 255) (hx3 : 0 ≤ x3 ∧ x3 ≤ 1020) (hn0 : 4 ≤ n0 ∧ n0 ≤ 8) (en0 : g a0 0 = .int (iI n0)) (ew3 : g a0 3 = .ref w3) (hs_w3 : S w3 = some (12300, 8)) (hm0 : (-2147483648) ≤ m0 ∧ m0 ≤ 2147483647) (em0 : g a0 9 = .int (iI m0)) (ew1 : g a0 1 = .ref w1) (hs_w1 : S w1 = some (12100, 64)) (ew2 : g a0 2 = .ref w2) (hs_w2 : S w2 = some (12200, 64)) (ew5 : g a0 5 = .ref w5) (hs_w5 : S w5 = some (12500, 8)) (ew6 : g a0 6 = .ref w6) (hs_w6 : S w6 = some (12600, 256)) (ew8 : g a0 8 = .ref w8) (hs_w8 : S w8 = some (12802, 64)) (hp0 : m0 = -1 ∨ xCo n0 (xv g w3)) (hp1 : xRs n0 (xv g w1) (xv g w6) ∧ xRb n0 (xv g w6) (-1) ∧ (xv g w6) (((2 ^ n0.toNat : Nat) : Int) - 1) = 0) (hp2 : xCm n0 (xv g w1) (xv g w2) sq (xvl g w8) n0 0) (hp3 : x2 = ((xmk (xv g w5) 4 : Nat) : Int)) (hp4 : x3 = xps (xv g w1) (xv g w5) 4) (hp5 : xPt n0 (xv g w1) (xv g w2) sq (xv g w5) 4) (hp6 : xBr n0 (xv g w1) (xv g w2) sq (xv g w5) 4 y4) : xMt l yX6_place cX6_place 8 none 4 0 0 108 D kA b0 t0 [(12500, 0), (7, 9), (12300, 0)] [.ref a0, .int (iI x1), .int (iI x2), .int (iI x3), .long y4] S g (fun (r : Option Value) (S1 : xT) (g1 : xG) => S = S1 ∧ r = none ∧ (∃ z9 : Int, g1 a0 9 = .int (iI z9) ∧ -2147483648 ≤ z9 ∧ z9 ≤ 2147483647 ∧ (z9 = -1 ∨ xCo n0 (xv g1 w3)) ∧ xD (xAg (xv g w5) 4) n0 (xv g w1) (xv g w2) sq m0 z9 (xv g w3) (xv g1 w3) ∧ ∀ k : Int, 0 ≤ k → k < 4 → xv g1 w5 k = xv g w5 k) ∧ (xFr 12300 S g g1 w3)) := by
  refine xEnterV (by decide) (by simp [lg_sl, Value.category]) [(0, .ref a0), (1, .int (iI x1)), (2, .int (iI x2)), (3, .int (iI x3)), (4, .long y4)] rfl ?_
  intro K E hK hret _ _ _
  refine X_iloadn hK (i := 3) 3 kd30_0.1 rfl rfl ?_
  refine X_aloadn hK (i := 0) 0 kd30_0.2.1 rfl rfl ?_
  refine X_getK hK fl_X6_31_7 hs_a0 ew6 kd30_0.2.2.1 ?_
  refine X_iloadn hK (i := 2) 2 kd30_0.2.2.2.1 rfl rfl ?_
  refine X_iald hK hs_w6 (by decide) sl_12600 (by omega) (by omega) kd30_0.2.2.2.2.1 (fun z1 ez1 lz1 uz1 => ?_)
  have hv2 : xv g w6 x2 = z1 := xv_e (j := x2) ez1 (by omega)
  have hb3 := xpl_r (bn := 4) (by omega) hp5 rfl (by omega) hp1.2.1 hp3 hv2
  refine X_iadd hK kd30_0.2.2.2.2.2.1 ?_
  refine X_aloadn hK (i := 0) 0 kd30_0.2.2.2.2.2.2.1 rfl rfl ?_
  refine X_getK hK fl_X6_42_7 hs_a0 em0 kd30_0.2.2.2.2.2.2.2.1 ?_
  refine X_icmp_gt hK 16 (by omega) (by omega) kd30_0.2.2.2.2.2.2.2.2.1 (by decide) (fun c4 => ?_) (fun c4 => ?_)
  · refine X_iloadn hK (i := 1) 1 kd30_0.2.2.2.2.2.2.2.2.2.2.1 rfl rfl ?_
    refine X_aloadn hK (i := 0) 0 kd30_0.2.2.2.2.2.2.2.2.2.2.2 rfl rfl ?_
    refine X_getK hK fl_X6_9_7 hs_a0 en0 kd30_1.1 ?_
    refine X_icmp_ne hK 62 (by omega) (by omega) kd30_1.2.1 (by decide) (fun c5 => ?_) (fun c5 => ?_)
    · refine X_iconst hK kd30_2.2.2.2.2.2.2.2.2.2.2.1 ?_
      refine X_istore hK (i := 6) [(6, .int (iI 0)), (0, .ref a0), (1, .int (iI x1)), (2, .int (iI x2)), (3, .int (iI x3)), (4, .long y4)] kd30_2.2.2.2.2.2.2.2.2.2.2.2 (by decide) rfl ?_
      have P107 : ∀ (nP107 : Nat) (g91 : xG) (_ : xM [(12500, 0), (7, 9), (12300, 0)] S g g91) (z90 : Int) (_ : 0 ≤ z90) (_ : z90 ≤ 8) (q92 : Int) (_ : (-2147483648) ≤ q92) (_ : q92 ≤ 2147483647) (_ : g91 a0 9 = .int (iI q92)) (_ : q92 = -1 ∨ xCo n0 (xv g91 w3)) (_ : xFr 12300 S g g91 w3) (_ : xD (fun u => xAg (xv g w5) 4 u ∧ u 4 < z90) n0 (xv g w1) (xv g w2) sq m0 q92 (xv g w3) (xv g91 w3)) (_ : ∀ k : Int, 0 ≤ k → k < 4 → xv g91 w5 k = xv g w5 k) (_ : 24 - z90 < (nP107 : Int)), X K E 65 [(6, .int (iI z90)), (0, .ref a0), (1, .int (iI x1)), (2, .int (iI x2)), (3, .int (iI x3)), (4, .long y4)] [] S g91 0 0 := by
        intro nP107
        induction nP107 with
        | zero => intro g91 hg91 z90 lz90 uz90 q92 lq92 uq92 eq92 v108 v109 v110 v111 mP107; exact False.elim (by omega)
        | succ nP107 ihP107 =>
          intro g91 hg91 z90 lz90 uz90 q92 lq92 uq92 eq92 v108 v109 v110 v111 mP107
          refine X_iload hK (i := 6) 0 kd30_3.1 rfl ?_
          refine X_aloadn hK (i := 0) 1 kd30_3.2.1 rfl rfl ?_
          refine X_getK hK fl_X6_9_7 hs_a0 ((hg91 a0 7 0 0 hs_a0 (by decide)).trans en0) kd30_3.2.2.1 ?_
          refine X_icmp_ge hK 141 (by omega) (by omega) kd30_3.2.2.2.1 (by decide) (fun c112 => ?_) (fun c112 => ?_)
          · exact hret _ _ _ _ _ _ kd30_6.2.2.2.2.2.2.2.2.2.2.2 ⟨rfl, rfl, ⟨q92, eq92, by omega, by omega, v108, (xpl_e (by omega) (by omega) v110), v111⟩, v109⟩ (Nat.le_refl _) (Nat.le_refl _)
          · refine X_iloadn hK (i := 1) 2 kd30_3.2.2.2.2.1 rfl rfl ?_
            refine X_bipush hK kd30_3.2.2.2.2.2.1 (by decide) ?_
            refine X_imul hK kd30_3.2.2.2.2.2.2.1 ?_
            refine X_iload hK (i := 6) 0 kd30_3.2.2.2.2.2.2.2.1 rfl ?_
            refine X_iadd hK kd30_3.2.2.2.2.2.2.2.2.1 ?_
            refine X_istore hK (i := 7) [(7, .int (iI ((x1 * 8) + z90))), (6, .int (iI z90)), (0, .ref a0), (1, .int (iI x1)), (2, .int (iI x2)), (3, .int (iI x3)), (4, .long y4)] kd30_3.2.2.2.2.2.2.2.2.2.1 (by decide) rfl ?_
            refine X_lload hK (i := 4) 6 kd30_3.2.2.2.2.2.2.2.2.2.2.1 rfl ?_
            refine X_iload hK (i := 7) 0 kd30_3.2.2.2.2.2.2.2.2.2.2.2 rfl ?_
            refine X_lushrE hK kd30_4.1 ?_
            refine X_lconstE hK (a := 1) (by decide +kernel) kd30_4.2.1 ?_
            refine X_landE hK kd30_4.2.2.1 ?_
            refine X_lconstE hK (a := 0) (by decide +kernel) kd30_4.2.2.2.1 ?_
            refine X_lcmpE hK kd30_4.2.2.2.2.1 (fun z113 lz113 uz113 ez113 fz113 => ?_)
            have hx114 : z113 = 0 ↔ xbt y4 (8 * 4 + z90).toNat = false := ez113.trans (by rw [show 8 * 4 + z90 = ((x1 * 8) + z90) by omega]; exact xbt_at y4 (by omega))
            refine X_if_ne hK 135 (by omega) kd30_4.2.2.2.2.2.1 (by decide) (fun c115 => ?_) (fun c115 => ?_)
            · refine X_iinc hK (i := 6) (z := z90) (n := 1) 1 [(6, .int (iI (z90 + 1))), (7, .int (iI ((x1 * 8) + z90))), (0, .ref a0), (1, .int (iI x1)), (2, .int (iI x2)), (3, .int (iI x3)), (4, .long y4)] kd30_6.2.2.2.2.2.2.2.2.2.1 rfl (by decide) rfl ?_
              refine X_goto hK 65 kd30_6.2.2.2.2.2.2.2.2.2.2.1 (by decide) ?_
              refine X_lv [(6, .int (iI (z90 + 1))), (0, .ref a0), (1, .int (iI x1)), (2, .int (iI x2)), (3, .int (iI x3)), (4, .long y4)] [0, 2, 3, 4, 5, 6] rfl ?_
              exact ihP107  g91 (xM.tr xM.rf xLe.rf hg91 (by decide)) (z90 + 1) (by omega) (by omega) q92 (by omega) (by omega) eq92 v108 v109 (xplS (by omega) (by omega) v110 (xpl_bar hp6 (by omega) (by omega) (by have h8 := hx114; cases hb9 : xbt y4 (8 * 4 + z90).toNat with | true => rfl | false => exact absurd (h8.mpr hb9) (by omega)))) v111 (by omega)
            · refine X_aloadn hK (i := 0) 2 kd30_4.2.2.2.2.2.2.1 rfl rfl ?_
              refine X_getK hK fl_X6_28_7 hs_a0 ((hg91 a0 7 0 5 hs_a0 (by decide)).trans ew5) kd30_4.2.2.2.2.2.2.2.1 ?_
              refine X_iloadn hK (i := 1) 3 kd30_4.2.2.2.2.2.2.2.2.1 rfl rfl ?_
              refine X_iload hK (i := 6) 1 kd30_4.2.2.2.2.2.2.2.2.2.1 rfl ?_
              refine X_iast hK hs_w5 (by decide) (by decide) sl_12500 (by omega) (by omega) (by omega) (by omega) kd30_4.2.2.2.2.2.2.2.2.2.2.1 (fun g116 hg116 => ?_)
              refine X_aloadn hK (i := 0) 2 kd30_4.2.2.2.2.2.2.2.2.2.2.2 rfl rfl ?_
              refine X_iloadn hK (i := 1) 3 kd30_5.1 rfl rfl ?_
              refine X_iconst hK kd30_5.2.1 ?_
              refine X_iadd hK kd30_5.2.2.1 ?_
              refine X_iloadn hK (i := 2) 4 kd30_5.2.2.2.1 rfl rfl ?_
              refine X_iconst hK kd30_5.2.2.2.2.1 ?_
              refine X_iload hK (i := 6) 1 kd30_5.2.2.2.2.2.1 rfl ?_
              refine X_ishl hK kd30_5.2.2.2.2.2.2.1 (fun z117 ez117 lz117 uz117 => ?_)
              have bz117 := xshlB 7 ez117 ⟨lz117, uz117⟩ (by omega) (by decide)
              refine X_ior hK kd30_5.2.2.2.2.2.2.2.1 (fun z118 ez118 lz118 uz118 => ?_)
              have bz118 := xiorB 8 ez118 ⟨lz118, uz118⟩ (by omega) (by omega) (by decide)
              refine X_iloadn hK (i := 3) 5 kd30_5.2.2.2.2.2.2.2.2.1 rfl rfl ?_
              refine X_aloadn hK (i := 0) 2 kd30_5.2.2.2.2.2.2.2.2.2.1 rfl rfl ?_
              refine X_getK hK fl_X6_15_7 hs_a0 ((xs_a hg116 (xne hs_a0 hs_w5 (by decide))).trans ((hg91 a0 7 0 1 hs_a0 (by decide)).trans ew1)) kd30_5.2.2.2.2.2.2.2.2.2.2.1 ?_
              refine X_iload hK (i := 7) 0 kd30_5.2.2.2.2.2.2.2.2.2.2.2 rfl ?_
              refine X_iald hK hs_w1 (by decide) sl_12100 (by omega) (by omega) kd30_6.1 (fun z119 ez119 lz119 uz119 => ?_)
              have hq120 : xv g w1 (8 * 4 + z90) = z119 := (by rw [show 8 * 4 + z90 = ((x1 * 8) + z90) by omega]; exact xv_e (j := ((x1 * 8) + z90)) (((xs_a hg116 (xne hs_w1 hs_w5 (by decide))).trans (hg91 _ _ _ _ hs_w1 (by rw [xky_a (by decide)]; decide))).symm.trans ez119) (by omega))
              refine X_iadd hK kd30_6.2.1 ?_
              refine X_lload hK (i := 4) 6 kd30_6.2.2.1 rfl ?_
              refine X_aloadn hK (i := 0) 2 kd30_6.2.2.2.1 rfl rfl ?_
              refine X_getK hK fl_X6_38_7 hs_a0 ((xs_a hg116 (xne hs_a0 hs_w5 (by decide))).trans ((hg91 a0 7 0 8 hs_a0 (by decide)).trans ew8)) kd30_6.2.2.2.2.1 ?_
              refine X_iload hK (i := 7) 0 kd30_6.2.2.2.2.2.1 rfl ?_
              refine X_laldE hK hs_w8 (by decide) sl_12802 (by omega) (by omega) kd30_6.2.2.2.2.2.2.1 (fun y121 ey121 => ?_)
              have hl122 : xvl g w8 (8 * 4 + z90) = y121 := (by rw [show 8 * 4 + z90 = ((x1 * 8) + z90) by omega]; exact xvl_e (j := ((x1 * 8) + z90)) (((xs_a hg116 (xne hs_w8 hs_w5 (by decide))).trans (hg91 _ _ _ _ hs_w8 (by rw [xky_a (by decide)]; decide))).symm.trans ey121))
              refine X_lorE hK kd30_6.2.2.2.2.2.2.2.1 ?_
              refine X_callV hK [.int (iI (x1 + 1)), .int (iI z118), .int (iI (x3 + z119)), .long (y4 ||| y121)] [] lk_X6_80 (c3_place_5 _ _ _ _ _ S g116 a0 (x1 + 1) z118 (x3 + z119) (y4 ||| y121) n0 w3 q92 w1 w2 w5 w6 w8 sq hs_a0 (by omega) (by omega) (by omega) (by omega) ((xs_a hg116 (xne hs_a0 hs_w5 (by decide))).trans ((hg91 a0 7 0 0 hs_a0 (by decide)).trans en0)) ((xs_a hg116 (xne hs_a0 hs_w5 (by decide))).trans ((hg91 a0 7 0 3 hs_a0 (by decide)).trans ew3)) hs_w3 (by omega) ((xs_a hg116 (xne hs_a0 hs_w5 (by decide))).trans eq92) ((xs_a hg116 (xne hs_a0 hs_w5 (by decide))).trans ((hg91 a0 7 0 1 hs_a0 (by decide)).trans ew1)) hs_w1 ((xs_a hg116 (xne hs_a0 hs_w5 (by decide))).trans ((hg91 a0 7 0 2 hs_a0 (by decide)).trans ew2)) hs_w2 ((xs_a hg116 (xne hs_a0 hs_w5 (by decide))).trans ((hg91 a0 7 0 5 hs_a0 (by decide)).trans ew5)) hs_w5 ((xs_a hg116 (xne hs_a0 hs_w5 (by decide))).trans ((hg91 a0 7 0 6 hs_a0 (by decide)).trans ew6)) hs_w6 ((xs_a hg116 (xne hs_a0 hs_w5 (by decide))).trans ((hg91 a0 7 0 8 hs_a0 (by decide)).trans ew8)) hs_w8 (by rw [(xv_a hg116 (xne hs_w3 hs_w5 (by decide)))]; exact v108) (by rw [(Eq.trans (xv_a hg116 (xne hs_w1 hs_w5 (by decide))) (xv_m hg91 hs_w1 (by decide) (by decide))), (Eq.trans (xv_a hg116 (xne hs_w6 hs_w5 (by decide))) (xv_m hg91 hs_w6 (by decide) (by decide)))]; exact hp1) (by rw [(Eq.trans (xv_a hg116 (xne hs_w1 hs_w5 (by decide))) (xv_m hg91 hs_w1 (by decide) (by decide))), (Eq.trans (xv_a hg116 (xne hs_w2 hs_w5 (by decide))) (xv_m hg91 hs_w2 (by decide) (by decide))), (Eq.trans (xvl_a hg116 (xne hs_w8 hs_w5 (by decide))) (xvl_m hg91 hs_w8 (by decide) (by decide)))]; exact hp2) (xpl_t (bn := 4) (by omega) hp5 rfl (by omega) hp6 (by omega) (hx114.mp (by omega)) hp3 ez117 ez118 (by omega) (show xv g116 w5 4 = z90 from by rw [show (4 : Int) = x1 by omega]; exact (show xv g116 w5 x1 = z90 from by rw [xv_s hg116 (by omega)])) (fun k9 q1 q2 => (show xv g116 w5 k9 = xv g91 w5 k9 from by rw [(xv_k (i := k9) hg116 (by omega) (by omega) (by omega))]).trans (v111 k9 q1 q2))) (by rw [(Eq.trans (xv_a hg116 (xne hs_w1 hs_w5 (by decide))) (xv_m hg91 hs_w1 (by decide) (by decide)))]; exact (xpl_p (bn := 4) rfl hp4 hq120 (show xv g116 w5 4 = z90 from by rw [show (4 : Int) = x1 by omega]; exact (show xv g116 w5 x1 = z90 from by rw [xv_s hg116 (by omega)])) (fun k9 q1 q2 => (show xv g116 w5 k9 = xv g91 w5 k9 from by rw [(xv_k (i := k9) hg116 (by omega) (by omega) (by omega))]).trans (v111 k9 q1 q2)))) (by rw [(Eq.trans (xv_a hg116 (xne hs_w1 hs_w5 (by decide))) (xv_m hg91 hs_w1 (by decide) (by decide))), (Eq.trans (xv_a hg116 (xne hs_w2 hs_w5 (by decide))) (xv_m hg91 hs_w2 (by decide) (by decide)))]; exact (xPt.s hp5 hp6 (by omega) (by omega) (hx114.mp (by omega)) (show xv g116 w5 4 = z90 from by rw [show (4 : Int) = x1 by omega]; exact (show xv g116 w5 x1 = z90 from by rw [xv_s hg116 (by omega)])) (fun k9 q1 q2 => (show xv g116 w5 k9 = xv g91 w5 k9 from by rw [(xv_k (i := k9) hg116 (by omega) (by omega) (by omega))]).trans (v111 k9 q1 q2)))) (by rw [(Eq.trans (xv_a hg116 (xne hs_w1 hs_w5 (by decide))) (xv_m hg91 hs_w1 (by decide) (by decide))), (Eq.trans (xv_a hg116 (xne hs_w2 hs_w5 (by decide))) (xv_m hg91 hs_w2 (by decide) (by decide)))]; exact (xBr.s hp6 (by omega) (by rw [← hl122]; exact hp2 4 z90 (by omega) (by omega) (by omega) (by omega) (Or.inl (by omega))) (by omega) (show xv g116 w5 4 = z90 from by rw [show (4 : Int) = x1 by omega]; exact (show xv g116 w5 x1 = z90 from by rw [xv_s hg116 (by omega)])) (fun k9 q1 q2 => (show xv g116 w5 k9 = xv g91 w5 k9 from by rw [(xv_k (i := k9) hg116 (by omega) (by omega) (by omega))]).trans (v111 k9 q1 q2))))) hs_a0 ⟨by decide, rfl⟩ kd30_6.2.2.2.2.2.2.2.2.1 rfl rfl (by simp [Value.category]) (by decide) (by decide) (by decide) (by decide) (fun r123 S125 g124 pr123 qr123 hg124 => ?_)
              obtain ⟨rfl, rfl, k126, k127⟩ := pr123
              refine X_st [] rfl ?_
              obtain ⟨z128, ez128, lz128, uz128, kz128, dz128, tz128⟩ := k126
              refine X_iinc hK (i := 6) (z := z90) (n := 1) 1 [(6, .int (iI (z90 + 1))), (7, .int (iI ((x1 * 8) + z90))), (0, .ref a0), (1, .int (iI x1)), (2, .int (iI x2)), (3, .int (iI x3)), (4, .long y4)] kd30_6.2.2.2.2.2.2.2.2.2.1 rfl (by decide) rfl ?_
              refine X_goto hK 65 kd30_6.2.2.2.2.2.2.2.2.2.2.1 (by decide) ?_
              refine X_lv [(6, .int (iI (z90 + 1))), (0, .ref a0), (1, .int (iI x1)), (2, .int (iI x2)), (3, .int (iI x3)), (4, .long y4)] [0, 2, 3, 4, 5, 6] rfl ?_
              exact ihP107  g124 (xM.tr (xM_ua (xM.tr xM.rf xLe.rf hg91 (by decide)) hg116 hs_w5 (by decide) (by decide)) xLe.rf hg124 (by decide)) (z90 + 1) (by omega) (by omega) z128 (by omega) (by omega) ez128 kz128 (xFr.tr (xFr.t v109 hg116 hs_w5 (by decide)) k127) (xplS (by omega) (by omega) v110 (xpl_in (by omega) (show xv g116 w5 4 = z90 from by rw [show (4 : Int) = x1 by omega]; exact (show xv g116 w5 x1 = z90 from by rw [xv_s hg116 (by omega)])) (fun k9 q1 q2 => (show xv g116 w5 k9 = xv g91 w5 k9 from by rw [(xv_k (i := k9) hg116 (by omega) (by omega) (by omega))]).trans (v111 k9 q1 q2)) (by rw [← (Eq.trans (xv_a hg116 (xne hs_w1 hs_w5 (by decide))) (xv_m hg91 hs_w1 (by decide) (by decide))), ← (Eq.trans (xv_a hg116 (xne hs_w2 hs_w5 (by decide))) (xv_m hg91 hs_w2 (by decide) (by decide))), ← (xv_a hg116 (xne hs_w3 hs_w5 (by decide)))]; exact dz128))) (fun k9 q1 q2 => (tz128 k9 q1 (by omega)).trans ((show xv g116 w5 k9 = xv g91 w5 k9 from by rw [(xv_k (i := k9) hg116 (by omega) (by omega) (by omega))]).trans (v111 k9 q1 q2))) (by omega)
      exact P107 ((24 - 0 : Int).toNat + 1) g xM.rf 0 (by omega) (by omega) m0 (by omega) (by omega) em0 hp0 xFr.rf (xpl_0 (by omega)) (fun _ _ _ => rfl) (by omega)
    · refine X_aloadn hK (i := 0) 0 kd30_1.2.2.1 rfl rfl ?_
      refine X_iloadn hK (i := 3) 3 kd30_1.2.2.2.1 rfl rfl ?_
      refine X_puti hK fl_X6_42_7 hs_a0 (by decide) sl_7_9 (by omega) (by omega) kd30_1.2.2.2.2.1 (fun g129 hg129 => ?_)
      refine X_iconst hK kd30_1.2.2.2.2.2.1 ?_
      refine X_istore hK (i := 6) [(6, .int (iI 0)), (0, .ref a0), (1, .int (iI x1)), (2, .int (iI x2)), (3, .int (iI x3)), (4, .long y4)] kd30_1.2.2.2.2.2.2.1 (by decide) rfl ?_
      have P159 : ∀ (nP159 : Nat) (g155 : xG) (_ : xM [(12300, 0)] S g129 g155) (z154 : Int) (_ : 0 ≤ z154) (_ : z154 ≤ 4) (_ : ∀ k, 0 ≤ k → k < z154 → 0 ≤ xv g155 w3 k) (_ : ∀ k, 0 ≤ k → k < z154 → xv g155 w3 k = xv g w5 k) (_ : xFr 12300 S g g155 w3) (_ : 20 - z154 < (nP159 : Int)), X K E 32 [(6, .int (iI z154)), (0, .ref a0), (1, .int (iI x1)), (2, .int (iI x2)), (3, .int (iI x3)), (4, .long y4)] [] S g155 0 0 := by
        intro nP159
        induction nP159 with
        | zero => intro g155 hg155 z154 lz154 uz154 v160 v161 v162 mP159; exact False.elim (by omega)
        | succ nP159 ihP159 =>
          intro g155 hg155 z154 lz154 uz154 v160 v161 v162 mP159
          refine X_iload hK (i := 6) 0 kd30_1.2.2.2.2.2.2.2.1 rfl ?_
          refine X_aloadn hK (i := 0) 1 kd30_1.2.2.2.2.2.2.2.2.1 rfl rfl ?_
          refine X_getK hK fl_X6_9_7 hs_a0 ((hg155 a0 7 0 0 hs_a0 (by decide)).trans ((xs_k hg129 (by decide)).trans en0)) kd30_1.2.2.2.2.2.2.2.2.2.1 ?_
          refine X_icmp_ge hK 61 (by omega) (by omega) kd30_1.2.2.2.2.2.2.2.2.2.2.1 (by decide) (fun c163 => ?_) (fun c163 => ?_)
          · exact hret _ _ _ _ _ _ kd30_2.2.2.2.2.2.2.2.2.2.1 ⟨rfl, rfl, ⟨x3, ((hg155 a0 7 0 9 hs_a0 (by decide)).trans (xs_s hg129)), by omega, by omega, Or.inr (fun k q1 q2 => v160 k q1 (by omega)), (xpl_leaf2 (bn := 4) rfl (by omega) (by omega) hp5 hp4 (by have h9 := xpl_z (bn := 4) (by omega) hp5 rfl (by omega) hp1.2.2 hp3 hv2; omega) (fun k9 q1 q2 => v161 k9 q1 (by omega))), (fun k9 q1 q2 => by rw [(Eq.trans (xv_m hg155 hs_w5 (by decide) (by decide)) (xv_a hg129 (xne hs_w5 hs_a0 (by decide))))])⟩, v162⟩ (Nat.le_refl _) (Nat.le_refl _)
          · refine X_aloadn hK (i := 0) 1 kd30_1.2.2.2.2.2.2.2.2.2.2.2 rfl rfl ?_
            refine X_getK hK fl_X6_22_7 hs_a0 ((hg155 a0 7 0 3 hs_a0 (by decide)).trans ((xs_k hg129 (by decide)).trans ew3)) kd30_2.1 ?_
            refine X_iload hK (i := 6) 0 kd30_2.2.1 rfl ?_
            refine X_aloadn hK (i := 0) 1 kd30_2.2.2.1 rfl rfl ?_
            refine X_getK hK fl_X6_28_7 hs_a0 ((hg155 a0 7 0 5 hs_a0 (by decide)).trans ((xs_k hg129 (by decide)).trans ew5)) kd30_2.2.2.2.1 ?_
            refine X_iload hK (i := 6) 0 kd30_2.2.2.2.2.1 rfl ?_
            refine X_iald hK hs_w5 (by decide) sl_12500 (by omega) (by omega) kd30_2.2.2.2.2.2.1 (fun z164 ez164 lz164 uz164 => ?_)
            have hq165 : xv g w5 z154 = z164 := xv_e (j := z154) (((hg155 _ _ _ _ hs_w5 (by rw [xky_a (by decide)]; decide)).trans (xs_a hg129 (xne hs_w5 hs_a0 (by decide)))).symm.trans ez164) (by omega)
            refine X_iast hK hs_w3 (by decide) (by decide) sl_12300 (by omega) (by omega) (by omega) (by omega) kd30_2.2.2.2.2.2.2.1 (fun g166 hg166 => ?_)
            refine X_iinc hK (i := 6) (z := z154) (n := 1) 0 [(6, .int (iI (z154 + 1))), (0, .ref a0), (1, .int (iI x1)), (2, .int (iI x2)), (3, .int (iI x3)), (4, .long y4)] kd30_2.2.2.2.2.2.2.2.1 rfl (by decide) rfl ?_
            refine X_goto hK 32 kd30_2.2.2.2.2.2.2.2.2.1 (by decide) ?_
            exact ihP159  g166 (xM_ua (xM.tr xM.rf xLe.rf hg155 (by decide)) hg166 hs_w3 (by decide) (by decide)) (z154 + 1) (by omega) (by omega) (xpre (P := fun x => 0 ≤ x) v160 (fun i9 hi9 h09 => (show xv g166 w3 i9 = xv g155 w3 i9 from by rw [(xv_k (i := i9) hg166 (by omega) (by omega) (by omega))])) (by rw [show xv g166 w3 z154 = _ from (show xv g166 w3 z154 = z164 from by rw [xv_s hg166 (by omega)])]; omega)) (fun k9 q1 q2 => by by_cases e9 : k9 = z154; (rw [e9, (show xv g166 w3 z154 = z164 from by rw [xv_s hg166 (by omega)])]; exact hq165.symm); (rw [(show xv g166 w3 k9 = xv g155 w3 k9 from by rw [(xv_k (i := k9) hg166 (by omega) (by omega) (by omega))])]; exact v161 k9 q1 (by omega))) (xFr.w v162 hg166) (by omega)
      exact P159 ((20 - 0 : Int).toNat + 1) g129 xM.rf 0 (by omega) (by omega) (fun k q1 q2 => by omega) (fun k q1 q2 => by omega) (xFr.t xFr.rf hg129 hs_a0 (by decide)) (by omega)
  · exact hret _ _ _ _ _ _ kd30_0.2.2.2.2.2.2.2.2.2.1 ⟨rfl, rfl, ⟨m0, em0, by omega, by omega, hp0, (xpl_prune2 (bn := 4) rfl (by omega) hp1.1 hp3 hp4 hv2 (by omega)), (fun _ _ _ => rfl)⟩, xFr.rf⟩ (Nat.le_refl _) (Nat.le_refl _)

set_option maxHeartbeats 4000000 in
set_option maxRecDepth 100000 in
theorem c3_place_3 (l : Launch) (D : va_G) (kA : Nat → ClassId) (b0 : Nat) (t0 : Nat → Nat) (S : xT) (g : xG) (a0 : Nat) (x1 : Int) (x2 : Int) (x3 : Int) (y4 : Int64) (n0 : Int) (w3 : Nat) (m0 : Int) (w1 : Nat) (w2 : Nat) (w5 : Nat) (w6 : Nat) (w8 : Nat) (sq : Int) (hs_a0 : S a0 = some (7, 0)) (hx1 : 3 ≤ x1 ∧ x1 ≤ 3) (hx2 : 0 ≤ x2 ∧ x2 ≤ 255) (hx3 : 0 ≤ x3 ∧ x3 ≤ 765) (hn0 : 3 ≤ n0 ∧ n0 ≤ 8) (en0 : g a0 0 = .int (iI n0)) (ew3 : g a0 3 = .ref w3) (hs_w3 : S w3 = some (12300, 8)) (hm0 : (-2147483648) ≤ m0 ∧ m0 ≤ 2147483647) (em0 : g a0 9 = .int (iI m0)) (ew1 : g a0 1 = .ref w1) (hs_w1 : S w1 = some (12100, 64)) (ew2 : g a0 2 = .ref w2) (hs_w2 : S w2 = some (12200, 64)) (ew5 : g a0 5 = .ref w5) (hs_w5 : S w5 = some (12500, 8)) (ew6 : g a0 6 = .ref w6) (hs_w6 : S w6 = some (12600, 256)) (ew8 : g a0 8 = .ref w8) (hs_w8 : S w8 = some (12802, 64)) (hp0 : m0 = -1 ∨ xCo n0 (xv g w3)) (hp1 : xRs n0 (xv g w1) (xv g w6) ∧ xRb n0 (xv g w6) (-1) ∧ (xv g w6) (((2 ^ n0.toNat : Nat) : Int) - 1) = 0) (hp2 : xCm n0 (xv g w1) (xv g w2) sq (xvl g w8) n0 0) (hp3 : x2 = ((xmk (xv g w5) 3 : Nat) : Int)) (hp4 : x3 = xps (xv g w1) (xv g w5) 3) (hp5 : xPt n0 (xv g w1) (xv g w2) sq (xv g w5) 3) (hp6 : xBr n0 (xv g w1) (xv g w2) sq (xv g w5) 3 y4) : xMt l yX6_place cX6_place 8 none 5 0 0 135 D kA b0 t0 [(12500, 0), (7, 9), (12300, 0)] [.ref a0, .int (iI x1), .int (iI x2), .int (iI x3), .long y4] S g (fun (r : Option Value) (S1 : xT) (g1 : xG) => S = S1 ∧ r = none ∧ (∃ z9 : Int, g1 a0 9 = .int (iI z9) ∧ -2147483648 ≤ z9 ∧ z9 ≤ 2147483647 ∧ (z9 = -1 ∨ xCo n0 (xv g1 w3)) ∧ xD (xAg (xv g w5) 3) n0 (xv g w1) (xv g w2) sq m0 z9 (xv g w3) (xv g1 w3) ∧ ∀ k : Int, 0 ≤ k → k < 3 → xv g1 w5 k = xv g w5 k) ∧ (xFr 12300 S g g1 w3)) := by
  refine xEnterV (by decide) (by simp [lg_sl, Value.category]) [(0, .ref a0), (1, .int (iI x1)), (2, .int (iI x2)), (3, .int (iI x3)), (4, .long y4)] rfl ?_
  intro K E hK hret _ _ _
  refine X_iloadn hK (i := 3) 3 kd30_0.1 rfl rfl ?_
  refine X_aloadn hK (i := 0) 0 kd30_0.2.1 rfl rfl ?_
  refine X_getK hK fl_X6_31_7 hs_a0 ew6 kd30_0.2.2.1 ?_
  refine X_iloadn hK (i := 2) 2 kd30_0.2.2.2.1 rfl rfl ?_
  refine X_iald hK hs_w6 (by decide) sl_12600 (by omega) (by omega) kd30_0.2.2.2.2.1 (fun z1 ez1 lz1 uz1 => ?_)
  have hv2 : xv g w6 x2 = z1 := xv_e (j := x2) ez1 (by omega)
  have hb3 := xpl_r (bn := 3) (by omega) hp5 rfl (by omega) hp1.2.1 hp3 hv2
  refine X_iadd hK kd30_0.2.2.2.2.2.1 ?_
  refine X_aloadn hK (i := 0) 0 kd30_0.2.2.2.2.2.2.1 rfl rfl ?_
  refine X_getK hK fl_X6_42_7 hs_a0 em0 kd30_0.2.2.2.2.2.2.2.1 ?_
  refine X_icmp_gt hK 16 (by omega) (by omega) kd30_0.2.2.2.2.2.2.2.2.1 (by decide) (fun c4 => ?_) (fun c4 => ?_)
  · refine X_iloadn hK (i := 1) 1 kd30_0.2.2.2.2.2.2.2.2.2.2.1 rfl rfl ?_
    refine X_aloadn hK (i := 0) 0 kd30_0.2.2.2.2.2.2.2.2.2.2.2 rfl rfl ?_
    refine X_getK hK fl_X6_9_7 hs_a0 en0 kd30_1.1 ?_
    refine X_icmp_ne hK 62 (by omega) (by omega) kd30_1.2.1 (by decide) (fun c5 => ?_) (fun c5 => ?_)
    · refine X_iconst hK kd30_2.2.2.2.2.2.2.2.2.2.2.1 ?_
      refine X_istore hK (i := 6) [(6, .int (iI 0)), (0, .ref a0), (1, .int (iI x1)), (2, .int (iI x2)), (3, .int (iI x3)), (4, .long y4)] kd30_2.2.2.2.2.2.2.2.2.2.2.2 (by decide) rfl ?_
      have P107 : ∀ (nP107 : Nat) (g91 : xG) (_ : xM [(12500, 0), (7, 9), (12300, 0)] S g g91) (z90 : Int) (_ : 0 ≤ z90) (_ : z90 ≤ 8) (q92 : Int) (_ : (-2147483648) ≤ q92) (_ : q92 ≤ 2147483647) (_ : g91 a0 9 = .int (iI q92)) (_ : q92 = -1 ∨ xCo n0 (xv g91 w3)) (_ : xFr 12300 S g g91 w3) (_ : xD (fun u => xAg (xv g w5) 3 u ∧ u 3 < z90) n0 (xv g w1) (xv g w2) sq m0 q92 (xv g w3) (xv g91 w3)) (_ : ∀ k : Int, 0 ≤ k → k < 3 → xv g91 w5 k = xv g w5 k) (_ : 24 - z90 < (nP107 : Int)), X K E 65 [(6, .int (iI z90)), (0, .ref a0), (1, .int (iI x1)), (2, .int (iI x2)), (3, .int (iI x3)), (4, .long y4)] [] S g91 0 0 := by
        intro nP107
        induction nP107 with
        | zero => intro g91 hg91 z90 lz90 uz90 q92 lq92 uq92 eq92 v108 v109 v110 v111 mP107; exact False.elim (by omega)
        | succ nP107 ihP107 =>
          intro g91 hg91 z90 lz90 uz90 q92 lq92 uq92 eq92 v108 v109 v110 v111 mP107
          refine X_iload hK (i := 6) 0 kd30_3.1 rfl ?_
          refine X_aloadn hK (i := 0) 1 kd30_3.2.1 rfl rfl ?_
          refine X_getK hK fl_X6_9_7 hs_a0 ((hg91 a0 7 0 0 hs_a0 (by decide)).trans en0) kd30_3.2.2.1 ?_
          refine X_icmp_ge hK 141 (by omega) (by omega) kd30_3.2.2.2.1 (by decide) (fun c112 => ?_) (fun c112 => ?_)
          · exact hret _ _ _ _ _ _ kd30_6.2.2.2.2.2.2.2.2.2.2.2 ⟨rfl, rfl, ⟨q92, eq92, by omega, by omega, v108, (xpl_e (by omega) (by omega) v110), v111⟩, v109⟩ (Nat.le_refl _) (Nat.le_refl _)
          · refine X_iloadn hK (i := 1) 2 kd30_3.2.2.2.2.1 rfl rfl ?_
            refine X_bipush hK kd30_3.2.2.2.2.2.1 (by decide) ?_
            refine X_imul hK kd30_3.2.2.2.2.2.2.1 ?_
            refine X_iload hK (i := 6) 0 kd30_3.2.2.2.2.2.2.2.1 rfl ?_
            refine X_iadd hK kd30_3.2.2.2.2.2.2.2.2.1 ?_
            refine X_istore hK (i := 7) [(7, .int (iI ((x1 * 8) + z90))), (6, .int (iI z90)), (0, .ref a0), (1, .int (iI x1)), (2, .int (iI x2)), (3, .int (iI x3)), (4, .long y4)] kd30_3.2.2.2.2.2.2.2.2.2.1 (by decide) rfl ?_
            refine X_lload hK (i := 4) 6 kd30_3.2.2.2.2.2.2.2.2.2.2.1 rfl ?_
            refine X_iload hK (i := 7) 0 kd30_3.2.2.2.2.2.2.2.2.2.2.2 rfl ?_
            refine X_lushrE hK kd30_4.1 ?_
            refine X_lconstE hK (a := 1) (by decide +kernel) kd30_4.2.1 ?_
            refine X_landE hK kd30_4.2.2.1 ?_
            refine X_lconstE hK (a := 0) (by decide +kernel) kd30_4.2.2.2.1 ?_
            refine X_lcmpE hK kd30_4.2.2.2.2.1 (fun z113 lz113 uz113 ez113 fz113 => ?_)
            have hx114 : z113 = 0 ↔ xbt y4 (8 * 3 + z90).toNat = false := ez113.trans (by rw [show 8 * 3 + z90 = ((x1 * 8) + z90) by omega]; exact xbt_at y4 (by omega))
            refine X_if_ne hK 135 (by omega) kd30_4.2.2.2.2.2.1 (by decide) (fun c115 => ?_) (fun c115 => ?_)
            · refine X_iinc hK (i := 6) (z := z90) (n := 1) 1 [(6, .int (iI (z90 + 1))), (7, .int (iI ((x1 * 8) + z90))), (0, .ref a0), (1, .int (iI x1)), (2, .int (iI x2)), (3, .int (iI x3)), (4, .long y4)] kd30_6.2.2.2.2.2.2.2.2.2.1 rfl (by decide) rfl ?_
              refine X_goto hK 65 kd30_6.2.2.2.2.2.2.2.2.2.2.1 (by decide) ?_
              refine X_lv [(6, .int (iI (z90 + 1))), (0, .ref a0), (1, .int (iI x1)), (2, .int (iI x2)), (3, .int (iI x3)), (4, .long y4)] [0, 2, 3, 4, 5, 6] rfl ?_
              exact ihP107  g91 (xM.tr xM.rf xLe.rf hg91 (by decide)) (z90 + 1) (by omega) (by omega) q92 (by omega) (by omega) eq92 v108 v109 (xplS (by omega) (by omega) v110 (xpl_bar hp6 (by omega) (by omega) (by have h8 := hx114; cases hb9 : xbt y4 (8 * 3 + z90).toNat with | true => rfl | false => exact absurd (h8.mpr hb9) (by omega)))) v111 (by omega)
            · refine X_aloadn hK (i := 0) 2 kd30_4.2.2.2.2.2.2.1 rfl rfl ?_
              refine X_getK hK fl_X6_28_7 hs_a0 ((hg91 a0 7 0 5 hs_a0 (by decide)).trans ew5) kd30_4.2.2.2.2.2.2.2.1 ?_
              refine X_iloadn hK (i := 1) 3 kd30_4.2.2.2.2.2.2.2.2.1 rfl rfl ?_
              refine X_iload hK (i := 6) 1 kd30_4.2.2.2.2.2.2.2.2.2.1 rfl ?_
              refine X_iast hK hs_w5 (by decide) (by decide) sl_12500 (by omega) (by omega) (by omega) (by omega) kd30_4.2.2.2.2.2.2.2.2.2.2.1 (fun g116 hg116 => ?_)
              refine X_aloadn hK (i := 0) 2 kd30_4.2.2.2.2.2.2.2.2.2.2.2 rfl rfl ?_
              refine X_iloadn hK (i := 1) 3 kd30_5.1 rfl rfl ?_
              refine X_iconst hK kd30_5.2.1 ?_
              refine X_iadd hK kd30_5.2.2.1 ?_
              refine X_iloadn hK (i := 2) 4 kd30_5.2.2.2.1 rfl rfl ?_
              refine X_iconst hK kd30_5.2.2.2.2.1 ?_
              refine X_iload hK (i := 6) 1 kd30_5.2.2.2.2.2.1 rfl ?_
              refine X_ishl hK kd30_5.2.2.2.2.2.2.1 (fun z117 ez117 lz117 uz117 => ?_)
              have bz117 := xshlB 7 ez117 ⟨lz117, uz117⟩ (by omega) (by decide)
              refine X_ior hK kd30_5.2.2.2.2.2.2.2.1 (fun z118 ez118 lz118 uz118 => ?_)
              have bz118 := xiorB 8 ez118 ⟨lz118, uz118⟩ (by omega) (by omega) (by decide)
              refine X_iloadn hK (i := 3) 5 kd30_5.2.2.2.2.2.2.2.2.1 rfl rfl ?_
              refine X_aloadn hK (i := 0) 2 kd30_5.2.2.2.2.2.2.2.2.2.1 rfl rfl ?_
              refine X_getK hK fl_X6_15_7 hs_a0 ((xs_a hg116 (xne hs_a0 hs_w5 (by decide))).trans ((hg91 a0 7 0 1 hs_a0 (by decide)).trans ew1)) kd30_5.2.2.2.2.2.2.2.2.2.2.1 ?_
              refine X_iload hK (i := 7) 0 kd30_5.2.2.2.2.2.2.2.2.2.2.2 rfl ?_
              refine X_iald hK hs_w1 (by decide) sl_12100 (by omega) (by omega) kd30_6.1 (fun z119 ez119 lz119 uz119 => ?_)
              have hq120 : xv g w1 (8 * 3 + z90) = z119 := (by rw [show 8 * 3 + z90 = ((x1 * 8) + z90) by omega]; exact xv_e (j := ((x1 * 8) + z90)) (((xs_a hg116 (xne hs_w1 hs_w5 (by decide))).trans (hg91 _ _ _ _ hs_w1 (by rw [xky_a (by decide)]; decide))).symm.trans ez119) (by omega))
              refine X_iadd hK kd30_6.2.1 ?_
              refine X_lload hK (i := 4) 6 kd30_6.2.2.1 rfl ?_
              refine X_aloadn hK (i := 0) 2 kd30_6.2.2.2.1 rfl rfl ?_
              refine X_getK hK fl_X6_38_7 hs_a0 ((xs_a hg116 (xne hs_a0 hs_w5 (by decide))).trans ((hg91 a0 7 0 8 hs_a0 (by decide)).trans ew8)) kd30_6.2.2.2.2.1 ?_
              refine X_iload hK (i := 7) 0 kd30_6.2.2.2.2.2.1 rfl ?_
              refine X_laldE hK hs_w8 (by decide) sl_12802 (by omega) (by omega) kd30_6.2.2.2.2.2.2.1 (fun y121 ey121 => ?_)
              have hl122 : xvl g w8 (8 * 3 + z90) = y121 := (by rw [show 8 * 3 + z90 = ((x1 * 8) + z90) by omega]; exact xvl_e (j := ((x1 * 8) + z90)) (((xs_a hg116 (xne hs_w8 hs_w5 (by decide))).trans (hg91 _ _ _ _ hs_w8 (by rw [xky_a (by decide)]; decide))).symm.trans ey121))
              refine X_lorE hK kd30_6.2.2.2.2.2.2.2.1 ?_
              refine X_callV hK [.int (iI (x1 + 1)), .int (iI z118), .int (iI (x3 + z119)), .long (y4 ||| y121)] [] lk_X6_80 (c3_place_4 _ _ _ _ _ S g116 a0 (x1 + 1) z118 (x3 + z119) (y4 ||| y121) n0 w3 q92 w1 w2 w5 w6 w8 sq hs_a0 (by omega) (by omega) (by omega) (by omega) ((xs_a hg116 (xne hs_a0 hs_w5 (by decide))).trans ((hg91 a0 7 0 0 hs_a0 (by decide)).trans en0)) ((xs_a hg116 (xne hs_a0 hs_w5 (by decide))).trans ((hg91 a0 7 0 3 hs_a0 (by decide)).trans ew3)) hs_w3 (by omega) ((xs_a hg116 (xne hs_a0 hs_w5 (by decide))).trans eq92) ((xs_a hg116 (xne hs_a0 hs_w5 (by decide))).trans ((hg91 a0 7 0 1 hs_a0 (by decide)).trans ew1)) hs_w1 ((xs_a hg116 (xne hs_a0 hs_w5 (by decide))).trans ((hg91 a0 7 0 2 hs_a0 (by decide)).trans ew2)) hs_w2 ((xs_a hg116 (xne hs_a0 hs_w5 (by decide))).trans ((hg91 a0 7 0 5 hs_a0 (by decide)).trans ew5)) hs_w5 ((xs_a hg116 (xne hs_a0 hs_w5 (by decide))).trans ((hg91 a0 7 0 6 hs_a0 (by decide)).trans ew6)) hs_w6 ((xs_a hg116 (xne hs_a0 hs_w5 (by decide))).trans ((hg91 a0 7 0 8 hs_a0 (by decide)).trans ew8)) hs_w8 (by rw [(xv_a hg116 (xne hs_w3 hs_w5 (by decide)))]; exact v108) (by rw [(Eq.trans (xv_a hg116 (xne hs_w1 hs_w5 (by decide))) (xv_m hg91 hs_w1 (by decide) (by decide))), (Eq.trans (xv_a hg116 (xne hs_w6 hs_w5 (by decide))) (xv_m hg91 hs_w6 (by decide) (by decide)))]; exact hp1) (by rw [(Eq.trans (xv_a hg116 (xne hs_w1 hs_w5 (by decide))) (xv_m hg91 hs_w1 (by decide) (by decide))), (Eq.trans (xv_a hg116 (xne hs_w2 hs_w5 (by decide))) (xv_m hg91 hs_w2 (by decide) (by decide))), (Eq.trans (xvl_a hg116 (xne hs_w8 hs_w5 (by decide))) (xvl_m hg91 hs_w8 (by decide) (by decide)))]; exact hp2) (xpl_t (bn := 3) (by omega) hp5 rfl (by omega) hp6 (by omega) (hx114.mp (by omega)) hp3 ez117 ez118 (by omega) (show xv g116 w5 3 = z90 from by rw [show (3 : Int) = x1 by omega]; exact (show xv g116 w5 x1 = z90 from by rw [xv_s hg116 (by omega)])) (fun k9 q1 q2 => (show xv g116 w5 k9 = xv g91 w5 k9 from by rw [(xv_k (i := k9) hg116 (by omega) (by omega) (by omega))]).trans (v111 k9 q1 q2))) (by rw [(Eq.trans (xv_a hg116 (xne hs_w1 hs_w5 (by decide))) (xv_m hg91 hs_w1 (by decide) (by decide)))]; exact (xpl_p (bn := 3) rfl hp4 hq120 (show xv g116 w5 3 = z90 from by rw [show (3 : Int) = x1 by omega]; exact (show xv g116 w5 x1 = z90 from by rw [xv_s hg116 (by omega)])) (fun k9 q1 q2 => (show xv g116 w5 k9 = xv g91 w5 k9 from by rw [(xv_k (i := k9) hg116 (by omega) (by omega) (by omega))]).trans (v111 k9 q1 q2)))) (by rw [(Eq.trans (xv_a hg116 (xne hs_w1 hs_w5 (by decide))) (xv_m hg91 hs_w1 (by decide) (by decide))), (Eq.trans (xv_a hg116 (xne hs_w2 hs_w5 (by decide))) (xv_m hg91 hs_w2 (by decide) (by decide)))]; exact (xPt.s hp5 hp6 (by omega) (by omega) (hx114.mp (by omega)) (show xv g116 w5 3 = z90 from by rw [show (3 : Int) = x1 by omega]; exact (show xv g116 w5 x1 = z90 from by rw [xv_s hg116 (by omega)])) (fun k9 q1 q2 => (show xv g116 w5 k9 = xv g91 w5 k9 from by rw [(xv_k (i := k9) hg116 (by omega) (by omega) (by omega))]).trans (v111 k9 q1 q2)))) (by rw [(Eq.trans (xv_a hg116 (xne hs_w1 hs_w5 (by decide))) (xv_m hg91 hs_w1 (by decide) (by decide))), (Eq.trans (xv_a hg116 (xne hs_w2 hs_w5 (by decide))) (xv_m hg91 hs_w2 (by decide) (by decide)))]; exact (xBr.s hp6 (by omega) (by rw [← hl122]; exact hp2 3 z90 (by omega) (by omega) (by omega) (by omega) (Or.inl (by omega))) (by omega) (show xv g116 w5 3 = z90 from by rw [show (3 : Int) = x1 by omega]; exact (show xv g116 w5 x1 = z90 from by rw [xv_s hg116 (by omega)])) (fun k9 q1 q2 => (show xv g116 w5 k9 = xv g91 w5 k9 from by rw [(xv_k (i := k9) hg116 (by omega) (by omega) (by omega))]).trans (v111 k9 q1 q2))))) hs_a0 ⟨by decide, rfl⟩ kd30_6.2.2.2.2.2.2.2.2.1 rfl rfl (by simp [Value.category]) (by decide) (by decide) (by decide) (by decide) (fun r123 S125 g124 pr123 qr123 hg124 => ?_)
              obtain ⟨rfl, rfl, k126, k127⟩ := pr123
              refine X_st [] rfl ?_
              obtain ⟨z128, ez128, lz128, uz128, kz128, dz128, tz128⟩ := k126
              refine X_iinc hK (i := 6) (z := z90) (n := 1) 1 [(6, .int (iI (z90 + 1))), (7, .int (iI ((x1 * 8) + z90))), (0, .ref a0), (1, .int (iI x1)), (2, .int (iI x2)), (3, .int (iI x3)), (4, .long y4)] kd30_6.2.2.2.2.2.2.2.2.2.1 rfl (by decide) rfl ?_
              refine X_goto hK 65 kd30_6.2.2.2.2.2.2.2.2.2.2.1 (by decide) ?_
              refine X_lv [(6, .int (iI (z90 + 1))), (0, .ref a0), (1, .int (iI x1)), (2, .int (iI x2)), (3, .int (iI x3)), (4, .long y4)] [0, 2, 3, 4, 5, 6] rfl ?_
              exact ihP107  g124 (xM.tr (xM_ua (xM.tr xM.rf xLe.rf hg91 (by decide)) hg116 hs_w5 (by decide) (by decide)) xLe.rf hg124 (by decide)) (z90 + 1) (by omega) (by omega) z128 (by omega) (by omega) ez128 kz128 (xFr.tr (xFr.t v109 hg116 hs_w5 (by decide)) k127) (xplS (by omega) (by omega) v110 (xpl_in (by omega) (show xv g116 w5 3 = z90 from by rw [show (3 : Int) = x1 by omega]; exact (show xv g116 w5 x1 = z90 from by rw [xv_s hg116 (by omega)])) (fun k9 q1 q2 => (show xv g116 w5 k9 = xv g91 w5 k9 from by rw [(xv_k (i := k9) hg116 (by omega) (by omega) (by omega))]).trans (v111 k9 q1 q2)) (by rw [← (Eq.trans (xv_a hg116 (xne hs_w1 hs_w5 (by decide))) (xv_m hg91 hs_w1 (by decide) (by decide))), ← (Eq.trans (xv_a hg116 (xne hs_w2 hs_w5 (by decide))) (xv_m hg91 hs_w2 (by decide) (by decide))), ← (xv_a hg116 (xne hs_w3 hs_w5 (by decide)))]; exact dz128))) (fun k9 q1 q2 => (tz128 k9 q1 (by omega)).trans ((show xv g116 w5 k9 = xv g91 w5 k9 from by rw [(xv_k (i := k9) hg116 (by omega) (by omega) (by omega))]).trans (v111 k9 q1 q2))) (by omega)
      exact P107 ((24 - 0 : Int).toNat + 1) g xM.rf 0 (by omega) (by omega) m0 (by omega) (by omega) em0 hp0 xFr.rf (xpl_0 (by omega)) (fun _ _ _ => rfl) (by omega)
    · refine X_aloadn hK (i := 0) 0 kd30_1.2.2.1 rfl rfl ?_
      refine X_iloadn hK (i := 3) 3 kd30_1.2.2.2.1 rfl rfl ?_
      refine X_puti hK fl_X6_42_7 hs_a0 (by decide) sl_7_9 (by omega) (by omega) kd30_1.2.2.2.2.1 (fun g129 hg129 => ?_)
      refine X_iconst hK kd30_1.2.2.2.2.2.1 ?_
      refine X_istore hK (i := 6) [(6, .int (iI 0)), (0, .ref a0), (1, .int (iI x1)), (2, .int (iI x2)), (3, .int (iI x3)), (4, .long y4)] kd30_1.2.2.2.2.2.2.1 (by decide) rfl ?_
      have P159 : ∀ (nP159 : Nat) (g155 : xG) (_ : xM [(12300, 0)] S g129 g155) (z154 : Int) (_ : 0 ≤ z154) (_ : z154 ≤ 3) (_ : ∀ k, 0 ≤ k → k < z154 → 0 ≤ xv g155 w3 k) (_ : ∀ k, 0 ≤ k → k < z154 → xv g155 w3 k = xv g w5 k) (_ : xFr 12300 S g g155 w3) (_ : 19 - z154 < (nP159 : Int)), X K E 32 [(6, .int (iI z154)), (0, .ref a0), (1, .int (iI x1)), (2, .int (iI x2)), (3, .int (iI x3)), (4, .long y4)] [] S g155 0 0 := by
        intro nP159
        induction nP159 with
        | zero => intro g155 hg155 z154 lz154 uz154 v160 v161 v162 mP159; exact False.elim (by omega)
        | succ nP159 ihP159 =>
          intro g155 hg155 z154 lz154 uz154 v160 v161 v162 mP159
          refine X_iload hK (i := 6) 0 kd30_1.2.2.2.2.2.2.2.1 rfl ?_
          refine X_aloadn hK (i := 0) 1 kd30_1.2.2.2.2.2.2.2.2.1 rfl rfl ?_
          refine X_getK hK fl_X6_9_7 hs_a0 ((hg155 a0 7 0 0 hs_a0 (by decide)).trans ((xs_k hg129 (by decide)).trans en0)) kd30_1.2.2.2.2.2.2.2.2.2.1 ?_
          refine X_icmp_ge hK 61 (by omega) (by omega) kd30_1.2.2.2.2.2.2.2.2.2.2.1 (by decide) (fun c163 => ?_) (fun c163 => ?_)
          · exact hret _ _ _ _ _ _ kd30_2.2.2.2.2.2.2.2.2.2.1 ⟨rfl, rfl, ⟨x3, ((hg155 a0 7 0 9 hs_a0 (by decide)).trans (xs_s hg129)), by omega, by omega, Or.inr (fun k q1 q2 => v160 k q1 (by omega)), (xpl_leaf2 (bn := 3) rfl (by omega) (by omega) hp5 hp4 (by have h9 := xpl_z (bn := 3) (by omega) hp5 rfl (by omega) hp1.2.2 hp3 hv2; omega) (fun k9 q1 q2 => v161 k9 q1 (by omega))), (fun k9 q1 q2 => by rw [(Eq.trans (xv_m hg155 hs_w5 (by decide) (by decide)) (xv_a hg129 (xne hs_w5 hs_a0 (by decide))))])⟩, v162⟩ (Nat.le_refl _) (Nat.le_refl _)
          · refine X_aloadn hK (i := 0) 1 kd30_1.2.2.2.2.2.2.2.2.2.2.2 rfl rfl ?_
            refine X_getK hK fl_X6_22_7 hs_a0 ((hg155 a0 7 0 3 hs_a0 (by decide)).trans ((xs_k hg129 (by decide)).trans ew3)) kd30_2.1 ?_
            refine X_iload hK (i := 6) 0 kd30_2.2.1 rfl ?_
            refine X_aloadn hK (i := 0) 1 kd30_2.2.2.1 rfl rfl ?_
            refine X_getK hK fl_X6_28_7 hs_a0 ((hg155 a0 7 0 5 hs_a0 (by decide)).trans ((xs_k hg129 (by decide)).trans ew5)) kd30_2.2.2.2.1 ?_
            refine X_iload hK (i := 6) 0 kd30_2.2.2.2.2.1 rfl ?_
            refine X_iald hK hs_w5 (by decide) sl_12500 (by omega) (by omega) kd30_2.2.2.2.2.2.1 (fun z164 ez164 lz164 uz164 => ?_)
            have hq165 : xv g w5 z154 = z164 := xv_e (j := z154) (((hg155 _ _ _ _ hs_w5 (by rw [xky_a (by decide)]; decide)).trans (xs_a hg129 (xne hs_w5 hs_a0 (by decide)))).symm.trans ez164) (by omega)
            refine X_iast hK hs_w3 (by decide) (by decide) sl_12300 (by omega) (by omega) (by omega) (by omega) kd30_2.2.2.2.2.2.2.1 (fun g166 hg166 => ?_)
            refine X_iinc hK (i := 6) (z := z154) (n := 1) 0 [(6, .int (iI (z154 + 1))), (0, .ref a0), (1, .int (iI x1)), (2, .int (iI x2)), (3, .int (iI x3)), (4, .long y4)] kd30_2.2.2.2.2.2.2.2.1 rfl (by decide) rfl ?_
            refine X_goto hK 32 kd30_2.2.2.2.2.2.2.2.2.1 (by decide) ?_
            exact ihP159  g166 (xM_ua (xM.tr xM.rf xLe.rf hg155 (by decide)) hg166 hs_w3 (by decide) (by decide)) (z154 + 1) (by omega) (by omega) (xpre (P := fun x => 0 ≤ x) v160 (fun i9 hi9 h09 => (show xv g166 w3 i9 = xv g155 w3 i9 from by rw [(xv_k (i := i9) hg166 (by omega) (by omega) (by omega))])) (by rw [show xv g166 w3 z154 = _ from (show xv g166 w3 z154 = z164 from by rw [xv_s hg166 (by omega)])]; omega)) (fun k9 q1 q2 => by by_cases e9 : k9 = z154; (rw [e9, (show xv g166 w3 z154 = z164 from by rw [xv_s hg166 (by omega)])]; exact hq165.symm); (rw [(show xv g166 w3 k9 = xv g155 w3 k9 from by rw [(xv_k (i := k9) hg166 (by omega) (by omega) (by omega))])]; exact v161 k9 q1 (by omega))) (xFr.w v162 hg166) (by omega)
      exact P159 ((19 - 0 : Int).toNat + 1) g129 xM.rf 0 (by omega) (by omega) (fun k q1 q2 => by omega) (fun k q1 q2 => by omega) (xFr.t xFr.rf hg129 hs_a0 (by decide)) (by omega)
  · exact hret _ _ _ _ _ _ kd30_0.2.2.2.2.2.2.2.2.2.1 ⟨rfl, rfl, ⟨m0, em0, by omega, by omega, hp0, (xpl_prune2 (bn := 3) rfl (by omega) hp1.1 hp3 hp4 hv2 (by omega)), (fun _ _ _ => rfl)⟩, xFr.rf⟩ (Nat.le_refl _) (Nat.le_refl _)

set_option maxHeartbeats 4000000 in
set_option maxRecDepth 100000 in
theorem c3_place_2 (l : Launch) (D : va_G) (kA : Nat → ClassId) (b0 : Nat) (t0 : Nat → Nat) (S : xT) (g : xG) (a0 : Nat) (x1 : Int) (x2 : Int) (x3 : Int) (y4 : Int64) (n0 : Int) (w3 : Nat) (m0 : Int) (w1 : Nat) (w2 : Nat) (w5 : Nat) (w6 : Nat) (w8 : Nat) (sq : Int) (hs_a0 : S a0 = some (7, 0)) (hx1 : 2 ≤ x1 ∧ x1 ≤ 2) (hx2 : 0 ≤ x2 ∧ x2 ≤ 255) (hx3 : 0 ≤ x3 ∧ x3 ≤ 510) (hn0 : 2 ≤ n0 ∧ n0 ≤ 8) (en0 : g a0 0 = .int (iI n0)) (ew3 : g a0 3 = .ref w3) (hs_w3 : S w3 = some (12300, 8)) (hm0 : (-2147483648) ≤ m0 ∧ m0 ≤ 2147483647) (em0 : g a0 9 = .int (iI m0)) (ew1 : g a0 1 = .ref w1) (hs_w1 : S w1 = some (12100, 64)) (ew2 : g a0 2 = .ref w2) (hs_w2 : S w2 = some (12200, 64)) (ew5 : g a0 5 = .ref w5) (hs_w5 : S w5 = some (12500, 8)) (ew6 : g a0 6 = .ref w6) (hs_w6 : S w6 = some (12600, 256)) (ew8 : g a0 8 = .ref w8) (hs_w8 : S w8 = some (12802, 64)) (hp0 : m0 = -1 ∨ xCo n0 (xv g w3)) (hp1 : xRs n0 (xv g w1) (xv g w6) ∧ xRb n0 (xv g w6) (-1) ∧ (xv g w6) (((2 ^ n0.toNat : Nat) : Int) - 1) = 0) (hp2 : xCm n0 (xv g w1) (xv g w2) sq (xvl g w8) n0 0) (hp3 : x2 = ((xmk (xv g w5) 2 : Nat) : Int)) (hp4 : x3 = xps (xv g w1) (xv g w5) 2) (hp5 : xPt n0 (xv g w1) (xv g w2) sq (xv g w5) 2) (hp6 : xBr n0 (xv g w1) (xv g w2) sq (xv g w5) 2 y4) : xMt l yX6_place cX6_place 8 none 6 0 0 162 D kA b0 t0 [(12500, 0), (7, 9), (12300, 0)] [.ref a0, .int (iI x1), .int (iI x2), .int (iI x3), .long y4] S g (fun (r : Option Value) (S1 : xT) (g1 : xG) => S = S1 ∧ r = none ∧ (∃ z9 : Int, g1 a0 9 = .int (iI z9) ∧ -2147483648 ≤ z9 ∧ z9 ≤ 2147483647 ∧ (z9 = -1 ∨ xCo n0 (xv g1 w3)) ∧ xD (xAg (xv g w5) 2) n0 (xv g w1) (xv g w2) sq m0 z9 (xv g w3) (xv g1 w3) ∧ ∀ k : Int, 0 ≤ k → k < 2 → xv g1 w5 k = xv g w5 k) ∧ (xFr 12300 S g g1 w3)) := by
  refine xEnterV (by decide) (by simp [lg_sl, Value.category]) [(0, .ref a0), (1, .int (iI x1)), (2, .int (iI x2)), (3, .int (iI x3)), (4, .long y4)] rfl ?_
  intro K E hK hret _ _ _
  refine X_iloadn hK (i := 3) 3 kd30_0.1 rfl rfl ?_
  refine X_aloadn hK (i := 0) 0 kd30_0.2.1 rfl rfl ?_
  refine X_getK hK fl_X6_31_7 hs_a0 ew6 kd30_0.2.2.1 ?_
  refine X_iloadn hK (i := 2) 2 kd30_0.2.2.2.1 rfl rfl ?_
  refine X_iald hK hs_w6 (by decide) sl_12600 (by omega) (by omega) kd30_0.2.2.2.2.1 (fun z1 ez1 lz1 uz1 => ?_)
  have hv2 : xv g w6 x2 = z1 := xv_e (j := x2) ez1 (by omega)
  have hb3 := xpl_r (bn := 2) (by omega) hp5 rfl (by omega) hp1.2.1 hp3 hv2
  refine X_iadd hK kd30_0.2.2.2.2.2.1 ?_
  refine X_aloadn hK (i := 0) 0 kd30_0.2.2.2.2.2.2.1 rfl rfl ?_
  refine X_getK hK fl_X6_42_7 hs_a0 em0 kd30_0.2.2.2.2.2.2.2.1 ?_
  refine X_icmp_gt hK 16 (by omega) (by omega) kd30_0.2.2.2.2.2.2.2.2.1 (by decide) (fun c4 => ?_) (fun c4 => ?_)
  · refine X_iloadn hK (i := 1) 1 kd30_0.2.2.2.2.2.2.2.2.2.2.1 rfl rfl ?_
    refine X_aloadn hK (i := 0) 0 kd30_0.2.2.2.2.2.2.2.2.2.2.2 rfl rfl ?_
    refine X_getK hK fl_X6_9_7 hs_a0 en0 kd30_1.1 ?_
    refine X_icmp_ne hK 62 (by omega) (by omega) kd30_1.2.1 (by decide) (fun c5 => ?_) (fun c5 => ?_)
    · refine X_iconst hK kd30_2.2.2.2.2.2.2.2.2.2.2.1 ?_
      refine X_istore hK (i := 6) [(6, .int (iI 0)), (0, .ref a0), (1, .int (iI x1)), (2, .int (iI x2)), (3, .int (iI x3)), (4, .long y4)] kd30_2.2.2.2.2.2.2.2.2.2.2.2 (by decide) rfl ?_
      have P107 : ∀ (nP107 : Nat) (g91 : xG) (_ : xM [(12500, 0), (7, 9), (12300, 0)] S g g91) (z90 : Int) (_ : 0 ≤ z90) (_ : z90 ≤ 8) (q92 : Int) (_ : (-2147483648) ≤ q92) (_ : q92 ≤ 2147483647) (_ : g91 a0 9 = .int (iI q92)) (_ : q92 = -1 ∨ xCo n0 (xv g91 w3)) (_ : xFr 12300 S g g91 w3) (_ : xD (fun u => xAg (xv g w5) 2 u ∧ u 2 < z90) n0 (xv g w1) (xv g w2) sq m0 q92 (xv g w3) (xv g91 w3)) (_ : ∀ k : Int, 0 ≤ k → k < 2 → xv g91 w5 k = xv g w5 k) (_ : 24 - z90 < (nP107 : Int)), X K E 65 [(6, .int (iI z90)), (0, .ref a0), (1, .int (iI x1)), (2, .int (iI x2)), (3, .int (iI x3)), (4, .long y4)] [] S g91 0 0 := by
        intro nP107
        induction nP107 with
        | zero => intro g91 hg91 z90 lz90 uz90 q92 lq92 uq92 eq92 v108 v109 v110 v111 mP107; exact False.elim (by omega)
        | succ nP107 ihP107 =>
          intro g91 hg91 z90 lz90 uz90 q92 lq92 uq92 eq92 v108 v109 v110 v111 mP107
          refine X_iload hK (i := 6) 0 kd30_3.1 rfl ?_
          refine X_aloadn hK (i := 0) 1 kd30_3.2.1 rfl rfl ?_
          refine X_getK hK fl_X6_9_7 hs_a0 ((hg91 a0 7 0 0 hs_a0 (by decide)).trans en0) kd30_3.2.2.1 ?_
          refine X_icmp_ge hK 141 (by omega) (by omega) kd30_3.2.2.2.1 (by decide) (fun c112 => ?_) (fun c112 => ?_)
          · exact hret _ _ _ _ _ _ kd30_6.2.2.2.2.2.2.2.2.2.2.2 ⟨rfl, rfl, ⟨q92, eq92, by omega, by omega, v108, (xpl_e (by omega) (by omega) v110), v111⟩, v109⟩ (Nat.le_refl _) (Nat.le_refl _)
          · refine X_iloadn hK (i := 1) 2 kd30_3.2.2.2.2.1 rfl rfl ?_
            refine X_bipush hK kd30_3.2.2.2.2.2.1 (by decide) ?_
            refine X_imul hK kd30_3.2.2.2.2.2.2.1 ?_
            refine X_iload hK (i := 6) 0 kd30_3.2.2.2.2.2.2.2.1 rfl ?_
            refine X_iadd hK kd30_3.2.2.2.2.2.2.2.2.1 ?_
            refine X_istore hK (i := 7) [(7, .int (iI ((x1 * 8) + z90))), (6, .int (iI z90)), (0, .ref a0), (1, .int (iI x1)), (2, .int (iI x2)), (3, .int (iI x3)), (4, .long y4)] kd30_3.2.2.2.2.2.2.2.2.2.1 (by decide) rfl ?_
            refine X_lload hK (i := 4) 6 kd30_3.2.2.2.2.2.2.2.2.2.2.1 rfl ?_
            refine X_iload hK (i := 7) 0 kd30_3.2.2.2.2.2.2.2.2.2.2.2 rfl ?_
            refine X_lushrE hK kd30_4.1 ?_
            refine X_lconstE hK (a := 1) (by decide +kernel) kd30_4.2.1 ?_
            refine X_landE hK kd30_4.2.2.1 ?_
            refine X_lconstE hK (a := 0) (by decide +kernel) kd30_4.2.2.2.1 ?_
            refine X_lcmpE hK kd30_4.2.2.2.2.1 (fun z113 lz113 uz113 ez113 fz113 => ?_)
            have hx114 : z113 = 0 ↔ xbt y4 (8 * 2 + z90).toNat = false := ez113.trans (by rw [show 8 * 2 + z90 = ((x1 * 8) + z90) by omega]; exact xbt_at y4 (by omega))
            refine X_if_ne hK 135 (by omega) kd30_4.2.2.2.2.2.1 (by decide) (fun c115 => ?_) (fun c115 => ?_)
            · refine X_iinc hK (i := 6) (z := z90) (n := 1) 1 [(6, .int (iI (z90 + 1))), (7, .int (iI ((x1 * 8) + z90))), (0, .ref a0), (1, .int (iI x1)), (2, .int (iI x2)), (3, .int (iI x3)), (4, .long y4)] kd30_6.2.2.2.2.2.2.2.2.2.1 rfl (by decide) rfl ?_
              refine X_goto hK 65 kd30_6.2.2.2.2.2.2.2.2.2.2.1 (by decide) ?_
              refine X_lv [(6, .int (iI (z90 + 1))), (0, .ref a0), (1, .int (iI x1)), (2, .int (iI x2)), (3, .int (iI x3)), (4, .long y4)] [0, 2, 3, 4, 5, 6] rfl ?_
              exact ihP107  g91 (xM.tr xM.rf xLe.rf hg91 (by decide)) (z90 + 1) (by omega) (by omega) q92 (by omega) (by omega) eq92 v108 v109 (xplS (by omega) (by omega) v110 (xpl_bar hp6 (by omega) (by omega) (by have h8 := hx114; cases hb9 : xbt y4 (8 * 2 + z90).toNat with | true => rfl | false => exact absurd (h8.mpr hb9) (by omega)))) v111 (by omega)
            · refine X_aloadn hK (i := 0) 2 kd30_4.2.2.2.2.2.2.1 rfl rfl ?_
              refine X_getK hK fl_X6_28_7 hs_a0 ((hg91 a0 7 0 5 hs_a0 (by decide)).trans ew5) kd30_4.2.2.2.2.2.2.2.1 ?_
              refine X_iloadn hK (i := 1) 3 kd30_4.2.2.2.2.2.2.2.2.1 rfl rfl ?_
              refine X_iload hK (i := 6) 1 kd30_4.2.2.2.2.2.2.2.2.2.1 rfl ?_
              refine X_iast hK hs_w5 (by decide) (by decide) sl_12500 (by omega) (by omega) (by omega) (by omega) kd30_4.2.2.2.2.2.2.2.2.2.2.1 (fun g116 hg116 => ?_)
              refine X_aloadn hK (i := 0) 2 kd30_4.2.2.2.2.2.2.2.2.2.2.2 rfl rfl ?_
              refine X_iloadn hK (i := 1) 3 kd30_5.1 rfl rfl ?_
              refine X_iconst hK kd30_5.2.1 ?_
              refine X_iadd hK kd30_5.2.2.1 ?_
              refine X_iloadn hK (i := 2) 4 kd30_5.2.2.2.1 rfl rfl ?_
              refine X_iconst hK kd30_5.2.2.2.2.1 ?_
              refine X_iload hK (i := 6) 1 kd30_5.2.2.2.2.2.1 rfl ?_
              refine X_ishl hK kd30_5.2.2.2.2.2.2.1 (fun z117 ez117 lz117 uz117 => ?_)
              have bz117 := xshlB 7 ez117 ⟨lz117, uz117⟩ (by omega) (by decide)
              refine X_ior hK kd30_5.2.2.2.2.2.2.2.1 (fun z118 ez118 lz118 uz118 => ?_)
              have bz118 := xiorB 8 ez118 ⟨lz118, uz118⟩ (by omega) (by omega) (by decide)
              refine X_iloadn hK (i := 3) 5 kd30_5.2.2.2.2.2.2.2.2.1 rfl rfl ?_
              refine X_aloadn hK (i := 0) 2 kd30_5.2.2.2.2.2.2.2.2.2.1 rfl rfl ?_
              refine X_getK hK fl_X6_15_7 hs_a0 ((xs_a hg116 (xne hs_a0 hs_w5 (by decide))).trans ((hg91 a0 7 0 1 hs_a0 (by decide)).trans ew1)) kd30_5.2.2.2.2.2.2.2.2.2.2.1 ?_
              refine X_iload hK (i := 7) 0 kd30_5.2.2.2.2.2.2.2.2.2.2.2 rfl ?_
              refine X_iald hK hs_w1 (by decide) sl_12100 (by omega) (by omega) kd30_6.1 (fun z119 ez119 lz119 uz119 => ?_)
              have hq120 : xv g w1 (8 * 2 + z90) = z119 := (by rw [show 8 * 2 + z90 = ((x1 * 8) + z90) by omega]; exact xv_e (j := ((x1 * 8) + z90)) (((xs_a hg116 (xne hs_w1 hs_w5 (by decide))).trans (hg91 _ _ _ _ hs_w1 (by rw [xky_a (by decide)]; decide))).symm.trans ez119) (by omega))
              refine X_iadd hK kd30_6.2.1 ?_
              refine X_lload hK (i := 4) 6 kd30_6.2.2.1 rfl ?_
              refine X_aloadn hK (i := 0) 2 kd30_6.2.2.2.1 rfl rfl ?_
              refine X_getK hK fl_X6_38_7 hs_a0 ((xs_a hg116 (xne hs_a0 hs_w5 (by decide))).trans ((hg91 a0 7 0 8 hs_a0 (by decide)).trans ew8)) kd30_6.2.2.2.2.1 ?_
              refine X_iload hK (i := 7) 0 kd30_6.2.2.2.2.2.1 rfl ?_
              refine X_laldE hK hs_w8 (by decide) sl_12802 (by omega) (by omega) kd30_6.2.2.2.2.2.2.1 (fun y121 ey121 => ?_)
              have hl122 : xvl g w8 (8 * 2 + z90) = y121 := (by rw [show 8 * 2 + z90 = ((x1 * 8) + z90) by omega]; exact xvl_e (j := ((x1 * 8) + z90)) (((xs_a hg116 (xne hs_w8 hs_w5 (by decide))).trans (hg91 _ _ _ _ hs_w8 (by rw [xky_a (by decide)]; decide))).symm.trans ey121))
              refine X_lorE hK kd30_6.2.2.2.2.2.2.2.1 ?_
              refine X_callV hK [.int (iI (x1 + 1)), .int (iI z118), .int (iI (x3 + z119)), .long (y4 ||| y121)] [] lk_X6_80 (c3_place_3 _ _ _ _ _ S g116 a0 (x1 + 1) z118 (x3 + z119) (y4 ||| y121) n0 w3 q92 w1 w2 w5 w6 w8 sq hs_a0 (by omega) (by omega) (by omega) (by omega) ((xs_a hg116 (xne hs_a0 hs_w5 (by decide))).trans ((hg91 a0 7 0 0 hs_a0 (by decide)).trans en0)) ((xs_a hg116 (xne hs_a0 hs_w5 (by decide))).trans ((hg91 a0 7 0 3 hs_a0 (by decide)).trans ew3)) hs_w3 (by omega) ((xs_a hg116 (xne hs_a0 hs_w5 (by decide))).trans eq92) ((xs_a hg116 (xne hs_a0 hs_w5 (by decide))).trans ((hg91 a0 7 0 1 hs_a0 (by decide)).trans ew1)) hs_w1 ((xs_a hg116 (xne hs_a0 hs_w5 (by decide))).trans ((hg91 a0 7 0 2 hs_a0 (by decide)).trans ew2)) hs_w2 ((xs_a hg116 (xne hs_a0 hs_w5 (by decide))).trans ((hg91 a0 7 0 5 hs_a0 (by decide)).trans ew5)) hs_w5 ((xs_a hg116 (xne hs_a0 hs_w5 (by decide))).trans ((hg91 a0 7 0 6 hs_a0 (by decide)).trans ew6)) hs_w6 ((xs_a hg116 (xne hs_a0 hs_w5 (by decide))).trans ((hg91 a0 7 0 8 hs_a0 (by decide)).trans ew8)) hs_w8 (by rw [(xv_a hg116 (xne hs_w3 hs_w5 (by decide)))]; exact v108) (by rw [(Eq.trans (xv_a hg116 (xne hs_w1 hs_w5 (by decide))) (xv_m hg91 hs_w1 (by decide) (by decide))), (Eq.trans (xv_a hg116 (xne hs_w6 hs_w5 (by decide))) (xv_m hg91 hs_w6 (by decide) (by decide)))]; exact hp1) (by rw [(Eq.trans (xv_a hg116 (xne hs_w1 hs_w5 (by decide))) (xv_m hg91 hs_w1 (by decide) (by decide))), (Eq.trans (xv_a hg116 (xne hs_w2 hs_w5 (by decide))) (xv_m hg91 hs_w2 (by decide) (by decide))), (Eq.trans (xvl_a hg116 (xne hs_w8 hs_w5 (by decide))) (xvl_m hg91 hs_w8 (by decide) (by decide)))]; exact hp2) (xpl_t (bn := 2) (by omega) hp5 rfl (by omega) hp6 (by omega) (hx114.mp (by omega)) hp3 ez117 ez118 (by omega) (show xv g116 w5 2 = z90 from by rw [show (2 : Int) = x1 by omega]; exact (show xv g116 w5 x1 = z90 from by rw [xv_s hg116 (by omega)])) (fun k9 q1 q2 => (show xv g116 w5 k9 = xv g91 w5 k9 from by rw [(xv_k (i := k9) hg116 (by omega) (by omega) (by omega))]).trans (v111 k9 q1 q2))) (by rw [(Eq.trans (xv_a hg116 (xne hs_w1 hs_w5 (by decide))) (xv_m hg91 hs_w1 (by decide) (by decide)))]; exact (xpl_p (bn := 2) rfl hp4 hq120 (show xv g116 w5 2 = z90 from by rw [show (2 : Int) = x1 by omega]; exact (show xv g116 w5 x1 = z90 from by rw [xv_s hg116 (by omega)])) (fun k9 q1 q2 => (show xv g116 w5 k9 = xv g91 w5 k9 from by rw [(xv_k (i := k9) hg116 (by omega) (by omega) (by omega))]).trans (v111 k9 q1 q2)))) (by rw [(Eq.trans (xv_a hg116 (xne hs_w1 hs_w5 (by decide))) (xv_m hg91 hs_w1 (by decide) (by decide))), (Eq.trans (xv_a hg116 (xne hs_w2 hs_w5 (by decide))) (xv_m hg91 hs_w2 (by decide) (by decide)))]; exact (xPt.s hp5 hp6 (by omega) (by omega) (hx114.mp (by omega)) (show xv g116 w5 2 = z90 from by rw [show (2 : Int) = x1 by omega]; exact (show xv g116 w5 x1 = z90 from by rw [xv_s hg116 (by omega)])) (fun k9 q1 q2 => (show xv g116 w5 k9 = xv g91 w5 k9 from by rw [(xv_k (i := k9) hg116 (by omega) (by omega) (by omega))]).trans (v111 k9 q1 q2)))) (by rw [(Eq.trans (xv_a hg116 (xne hs_w1 hs_w5 (by decide))) (xv_m hg91 hs_w1 (by decide) (by decide))), (Eq.trans (xv_a hg116 (xne hs_w2 hs_w5 (by decide))) (xv_m hg91 hs_w2 (by decide) (by decide)))]; exact (xBr.s hp6 (by omega) (by rw [← hl122]; exact hp2 2 z90 (by omega) (by omega) (by omega) (by omega) (Or.inl (by omega))) (by omega) (show xv g116 w5 2 = z90 from by rw [show (2 : Int) = x1 by omega]; exact (show xv g116 w5 x1 = z90 from by rw [xv_s hg116 (by omega)])) (fun k9 q1 q2 => (show xv g116 w5 k9 = xv g91 w5 k9 from by rw [(xv_k (i := k9) hg116 (by omega) (by omega) (by omega))]).trans (v111 k9 q1 q2))))) hs_a0 ⟨by decide, rfl⟩ kd30_6.2.2.2.2.2.2.2.2.1 rfl rfl (by simp [Value.category]) (by decide) (by decide) (by decide) (by decide) (fun r123 S125 g124 pr123 qr123 hg124 => ?_)
              obtain ⟨rfl, rfl, k126, k127⟩ := pr123
              refine X_st [] rfl ?_
              obtain ⟨z128, ez128, lz128, uz128, kz128, dz128, tz128⟩ := k126
              refine X_iinc hK (i := 6) (z := z90) (n := 1) 1 [(6, .int (iI (z90 + 1))), (7, .int (iI ((x1 * 8) + z90))), (0, .ref a0), (1, .int (iI x1)), (2, .int (iI x2)), (3, .int (iI x3)), (4, .long y4)] kd30_6.2.2.2.2.2.2.2.2.2.1 rfl (by decide) rfl ?_
              refine X_goto hK 65 kd30_6.2.2.2.2.2.2.2.2.2.2.1 (by decide) ?_
              refine X_lv [(6, .int (iI (z90 + 1))), (0, .ref a0), (1, .int (iI x1)), (2, .int (iI x2)), (3, .int (iI x3)), (4, .long y4)] [0, 2, 3, 4, 5, 6] rfl ?_
              exact ihP107  g124 (xM.tr (xM_ua (xM.tr xM.rf xLe.rf hg91 (by decide)) hg116 hs_w5 (by decide) (by decide)) xLe.rf hg124 (by decide)) (z90 + 1) (by omega) (by omega) z128 (by omega) (by omega) ez128 kz128 (xFr.tr (xFr.t v109 hg116 hs_w5 (by decide)) k127) (xplS (by omega) (by omega) v110 (xpl_in (by omega) (show xv g116 w5 2 = z90 from by rw [show (2 : Int) = x1 by omega]; exact (show xv g116 w5 x1 = z90 from by rw [xv_s hg116 (by omega)])) (fun k9 q1 q2 => (show xv g116 w5 k9 = xv g91 w5 k9 from by rw [(xv_k (i := k9) hg116 (by omega) (by omega) (by omega))]).trans (v111 k9 q1 q2)) (by rw [← (Eq.trans (xv_a hg116 (xne hs_w1 hs_w5 (by decide))) (xv_m hg91 hs_w1 (by decide) (by decide))), ← (Eq.trans (xv_a hg116 (xne hs_w2 hs_w5 (by decide))) (xv_m hg91 hs_w2 (by decide) (by decide))), ← (xv_a hg116 (xne hs_w3 hs_w5 (by decide)))]; exact dz128))) (fun k9 q1 q2 => (tz128 k9 q1 (by omega)).trans ((show xv g116 w5 k9 = xv g91 w5 k9 from by rw [(xv_k (i := k9) hg116 (by omega) (by omega) (by omega))]).trans (v111 k9 q1 q2))) (by omega)
      exact P107 ((24 - 0 : Int).toNat + 1) g xM.rf 0 (by omega) (by omega) m0 (by omega) (by omega) em0 hp0 xFr.rf (xpl_0 (by omega)) (fun _ _ _ => rfl) (by omega)
    · refine X_aloadn hK (i := 0) 0 kd30_1.2.2.1 rfl rfl ?_
      refine X_iloadn hK (i := 3) 3 kd30_1.2.2.2.1 rfl rfl ?_
      refine X_puti hK fl_X6_42_7 hs_a0 (by decide) sl_7_9 (by omega) (by omega) kd30_1.2.2.2.2.1 (fun g129 hg129 => ?_)
      refine X_iconst hK kd30_1.2.2.2.2.2.1 ?_
      refine X_istore hK (i := 6) [(6, .int (iI 0)), (0, .ref a0), (1, .int (iI x1)), (2, .int (iI x2)), (3, .int (iI x3)), (4, .long y4)] kd30_1.2.2.2.2.2.2.1 (by decide) rfl ?_
      have P159 : ∀ (nP159 : Nat) (g155 : xG) (_ : xM [(12300, 0)] S g129 g155) (z154 : Int) (_ : 0 ≤ z154) (_ : z154 ≤ 2) (_ : ∀ k, 0 ≤ k → k < z154 → 0 ≤ xv g155 w3 k) (_ : ∀ k, 0 ≤ k → k < z154 → xv g155 w3 k = xv g w5 k) (_ : xFr 12300 S g g155 w3) (_ : 18 - z154 < (nP159 : Int)), X K E 32 [(6, .int (iI z154)), (0, .ref a0), (1, .int (iI x1)), (2, .int (iI x2)), (3, .int (iI x3)), (4, .long y4)] [] S g155 0 0 := by
        intro nP159
        induction nP159 with
        | zero => intro g155 hg155 z154 lz154 uz154 v160 v161 v162 mP159; exact False.elim (by omega)
        | succ nP159 ihP159 =>
          intro g155 hg155 z154 lz154 uz154 v160 v161 v162 mP159
          refine X_iload hK (i := 6) 0 kd30_1.2.2.2.2.2.2.2.1 rfl ?_
          refine X_aloadn hK (i := 0) 1 kd30_1.2.2.2.2.2.2.2.2.1 rfl rfl ?_
          refine X_getK hK fl_X6_9_7 hs_a0 ((hg155 a0 7 0 0 hs_a0 (by decide)).trans ((xs_k hg129 (by decide)).trans en0)) kd30_1.2.2.2.2.2.2.2.2.2.1 ?_
          refine X_icmp_ge hK 61 (by omega) (by omega) kd30_1.2.2.2.2.2.2.2.2.2.2.1 (by decide) (fun c163 => ?_) (fun c163 => ?_)
          · exact hret _ _ _ _ _ _ kd30_2.2.2.2.2.2.2.2.2.2.1 ⟨rfl, rfl, ⟨x3, ((hg155 a0 7 0 9 hs_a0 (by decide)).trans (xs_s hg129)), by omega, by omega, Or.inr (fun k q1 q2 => v160 k q1 (by omega)), (xpl_leaf2 (bn := 2) rfl (by omega) (by omega) hp5 hp4 (by have h9 := xpl_z (bn := 2) (by omega) hp5 rfl (by omega) hp1.2.2 hp3 hv2; omega) (fun k9 q1 q2 => v161 k9 q1 (by omega))), (fun k9 q1 q2 => by rw [(Eq.trans (xv_m hg155 hs_w5 (by decide) (by decide)) (xv_a hg129 (xne hs_w5 hs_a0 (by decide))))])⟩, v162⟩ (Nat.le_refl _) (Nat.le_refl _)
          · refine X_aloadn hK (i := 0) 1 kd30_1.2.2.2.2.2.2.2.2.2.2.2 rfl rfl ?_
            refine X_getK hK fl_X6_22_7 hs_a0 ((hg155 a0 7 0 3 hs_a0 (by decide)).trans ((xs_k hg129 (by decide)).trans ew3)) kd30_2.1 ?_
            refine X_iload hK (i := 6) 0 kd30_2.2.1 rfl ?_
            refine X_aloadn hK (i := 0) 1 kd30_2.2.2.1 rfl rfl ?_
            refine X_getK hK fl_X6_28_7 hs_a0 ((hg155 a0 7 0 5 hs_a0 (by decide)).trans ((xs_k hg129 (by decide)).trans ew5)) kd30_2.2.2.2.1 ?_
            refine X_iload hK (i := 6) 0 kd30_2.2.2.2.2.1 rfl ?_
            refine X_iald hK hs_w5 (by decide) sl_12500 (by omega) (by omega) kd30_2.2.2.2.2.2.1 (fun z164 ez164 lz164 uz164 => ?_)
            have hq165 : xv g w5 z154 = z164 := xv_e (j := z154) (((hg155 _ _ _ _ hs_w5 (by rw [xky_a (by decide)]; decide)).trans (xs_a hg129 (xne hs_w5 hs_a0 (by decide)))).symm.trans ez164) (by omega)
            refine X_iast hK hs_w3 (by decide) (by decide) sl_12300 (by omega) (by omega) (by omega) (by omega) kd30_2.2.2.2.2.2.2.1 (fun g166 hg166 => ?_)
            refine X_iinc hK (i := 6) (z := z154) (n := 1) 0 [(6, .int (iI (z154 + 1))), (0, .ref a0), (1, .int (iI x1)), (2, .int (iI x2)), (3, .int (iI x3)), (4, .long y4)] kd30_2.2.2.2.2.2.2.2.1 rfl (by decide) rfl ?_
            refine X_goto hK 32 kd30_2.2.2.2.2.2.2.2.2.1 (by decide) ?_
            exact ihP159  g166 (xM_ua (xM.tr xM.rf xLe.rf hg155 (by decide)) hg166 hs_w3 (by decide) (by decide)) (z154 + 1) (by omega) (by omega) (xpre (P := fun x => 0 ≤ x) v160 (fun i9 hi9 h09 => (show xv g166 w3 i9 = xv g155 w3 i9 from by rw [(xv_k (i := i9) hg166 (by omega) (by omega) (by omega))])) (by rw [show xv g166 w3 z154 = _ from (show xv g166 w3 z154 = z164 from by rw [xv_s hg166 (by omega)])]; omega)) (fun k9 q1 q2 => by by_cases e9 : k9 = z154; (rw [e9, (show xv g166 w3 z154 = z164 from by rw [xv_s hg166 (by omega)])]; exact hq165.symm); (rw [(show xv g166 w3 k9 = xv g155 w3 k9 from by rw [(xv_k (i := k9) hg166 (by omega) (by omega) (by omega))])]; exact v161 k9 q1 (by omega))) (xFr.w v162 hg166) (by omega)
      exact P159 ((18 - 0 : Int).toNat + 1) g129 xM.rf 0 (by omega) (by omega) (fun k q1 q2 => by omega) (fun k q1 q2 => by omega) (xFr.t xFr.rf hg129 hs_a0 (by decide)) (by omega)
  · exact hret _ _ _ _ _ _ kd30_0.2.2.2.2.2.2.2.2.2.1 ⟨rfl, rfl, ⟨m0, em0, by omega, by omega, hp0, (xpl_prune2 (bn := 2) rfl (by omega) hp1.1 hp3 hp4 hv2 (by omega)), (fun _ _ _ => rfl)⟩, xFr.rf⟩ (Nat.le_refl _) (Nat.le_refl _)

set_option maxHeartbeats 4000000 in
set_option maxRecDepth 100000 in
theorem c3_place_1 (l : Launch) (D : va_G) (kA : Nat → ClassId) (b0 : Nat) (t0 : Nat → Nat) (S : xT) (g : xG) (a0 : Nat) (x1 : Int) (x2 : Int) (x3 : Int) (y4 : Int64) (n0 : Int) (w3 : Nat) (m0 : Int) (w1 : Nat) (w2 : Nat) (w5 : Nat) (w6 : Nat) (w8 : Nat) (sq : Int) (hs_a0 : S a0 = some (7, 0)) (hx1 : 1 ≤ x1 ∧ x1 ≤ 1) (hx2 : 0 ≤ x2 ∧ x2 ≤ 255) (hx3 : 0 ≤ x3 ∧ x3 ≤ 255) (hn0 : 1 ≤ n0 ∧ n0 ≤ 8) (en0 : g a0 0 = .int (iI n0)) (ew3 : g a0 3 = .ref w3) (hs_w3 : S w3 = some (12300, 8)) (hm0 : (-2147483648) ≤ m0 ∧ m0 ≤ 2147483647) (em0 : g a0 9 = .int (iI m0)) (ew1 : g a0 1 = .ref w1) (hs_w1 : S w1 = some (12100, 64)) (ew2 : g a0 2 = .ref w2) (hs_w2 : S w2 = some (12200, 64)) (ew5 : g a0 5 = .ref w5) (hs_w5 : S w5 = some (12500, 8)) (ew6 : g a0 6 = .ref w6) (hs_w6 : S w6 = some (12600, 256)) (ew8 : g a0 8 = .ref w8) (hs_w8 : S w8 = some (12802, 64)) (hp0 : m0 = -1 ∨ xCo n0 (xv g w3)) (hp1 : xRs n0 (xv g w1) (xv g w6) ∧ xRb n0 (xv g w6) (-1) ∧ (xv g w6) (((2 ^ n0.toNat : Nat) : Int) - 1) = 0) (hp2 : xCm n0 (xv g w1) (xv g w2) sq (xvl g w8) n0 0) (hp3 : x2 = ((xmk (xv g w5) 1 : Nat) : Int)) (hp4 : x3 = xps (xv g w1) (xv g w5) 1) (hp5 : xPt n0 (xv g w1) (xv g w2) sq (xv g w5) 1) (hp6 : xBr n0 (xv g w1) (xv g w2) sq (xv g w5) 1 y4) : xMt l yX6_place cX6_place 8 none 7 0 0 189 D kA b0 t0 [(12500, 0), (7, 9), (12300, 0)] [.ref a0, .int (iI x1), .int (iI x2), .int (iI x3), .long y4] S g (fun (r : Option Value) (S1 : xT) (g1 : xG) => S = S1 ∧ r = none ∧ (∃ z9 : Int, g1 a0 9 = .int (iI z9) ∧ -2147483648 ≤ z9 ∧ z9 ≤ 2147483647 ∧ (z9 = -1 ∨ xCo n0 (xv g1 w3)) ∧ xD (xAg (xv g w5) 1) n0 (xv g w1) (xv g w2) sq m0 z9 (xv g w3) (xv g1 w3) ∧ ∀ k : Int, 0 ≤ k → k < 1 → xv g1 w5 k = xv g w5 k) ∧ (xFr 12300 S g g1 w3)) := by
  refine xEnterV (by decide) (by simp [lg_sl, Value.category]) [(0, .ref a0), (1, .int (iI x1)), (2, .int (iI x2)), (3, .int (iI x3)), (4, .long y4)] rfl ?_
  intro K E hK hret _ _ _
  refine X_iloadn hK (i := 3) 3 kd30_0.1 rfl rfl ?_
  refine X_aloadn hK (i := 0) 0 kd30_0.2.1 rfl rfl ?_
  refine X_getK hK fl_X6_31_7 hs_a0 ew6 kd30_0.2.2.1 ?_
  refine X_iloadn hK (i := 2) 2 kd30_0.2.2.2.1 rfl rfl ?_
  refine X_iald hK hs_w6 (by decide) sl_12600 (by omega) (by omega) kd30_0.2.2.2.2.1 (fun z1 ez1 lz1 uz1 => ?_)
  have hv2 : xv g w6 x2 = z1 := xv_e (j := x2) ez1 (by omega)
  have hb3 := xpl_r (bn := 1) (by omega) hp5 rfl (by omega) hp1.2.1 hp3 hv2
  refine X_iadd hK kd30_0.2.2.2.2.2.1 ?_
  refine X_aloadn hK (i := 0) 0 kd30_0.2.2.2.2.2.2.1 rfl rfl ?_
  refine X_getK hK fl_X6_42_7 hs_a0 em0 kd30_0.2.2.2.2.2.2.2.1 ?_
  refine X_icmp_gt hK 16 (by omega) (by omega) kd30_0.2.2.2.2.2.2.2.2.1 (by decide) (fun c4 => ?_) (fun c4 => ?_)
  · refine X_iloadn hK (i := 1) 1 kd30_0.2.2.2.2.2.2.2.2.2.2.1 rfl rfl ?_
    refine X_aloadn hK (i := 0) 0 kd30_0.2.2.2.2.2.2.2.2.2.2.2 rfl rfl ?_
    refine X_getK hK fl_X6_9_7 hs_a0 en0 kd30_1.1 ?_
    refine X_icmp_ne hK 62 (by omega) (by omega) kd30_1.2.1 (by decide) (fun c5 => ?_) (fun c5 => ?_)
    · refine X_iconst hK kd30_2.2.2.2.2.2.2.2.2.2.2.1 ?_
      refine X_istore hK (i := 6) [(6, .int (iI 0)), (0, .ref a0), (1, .int (iI x1)), (2, .int (iI x2)), (3, .int (iI x3)), (4, .long y4)] kd30_2.2.2.2.2.2.2.2.2.2.2.2 (by decide) rfl ?_
      have P107 : ∀ (nP107 : Nat) (g91 : xG) (_ : xM [(12500, 0), (7, 9), (12300, 0)] S g g91) (z90 : Int) (_ : 0 ≤ z90) (_ : z90 ≤ 8) (q92 : Int) (_ : (-2147483648) ≤ q92) (_ : q92 ≤ 2147483647) (_ : g91 a0 9 = .int (iI q92)) (_ : q92 = -1 ∨ xCo n0 (xv g91 w3)) (_ : xFr 12300 S g g91 w3) (_ : xD (fun u => xAg (xv g w5) 1 u ∧ u 1 < z90) n0 (xv g w1) (xv g w2) sq m0 q92 (xv g w3) (xv g91 w3)) (_ : ∀ k : Int, 0 ≤ k → k < 1 → xv g91 w5 k = xv g w5 k) (_ : 24 - z90 < (nP107 : Int)), X K E 65 [(6, .int (iI z90)), (0, .ref a0), (1, .int (iI x1)), (2, .int (iI x2)), (3, .int (iI x3)), (4, .long y4)] [] S g91 0 0 := by
        intro nP107
        induction nP107 with
        | zero => intro g91 hg91 z90 lz90 uz90 q92 lq92 uq92 eq92 v108 v109 v110 v111 mP107; exact False.elim (by omega)
        | succ nP107 ihP107 =>
          intro g91 hg91 z90 lz90 uz90 q92 lq92 uq92 eq92 v108 v109 v110 v111 mP107
          refine X_iload hK (i := 6) 0 kd30_3.1 rfl ?_
          refine X_aloadn hK (i := 0) 1 kd30_3.2.1 rfl rfl ?_
          refine X_getK hK fl_X6_9_7 hs_a0 ((hg91 a0 7 0 0 hs_a0 (by decide)).trans en0) kd30_3.2.2.1 ?_
          refine X_icmp_ge hK 141 (by omega) (by omega) kd30_3.2.2.2.1 (by decide) (fun c112 => ?_) (fun c112 => ?_)
          · exact hret _ _ _ _ _ _ kd30_6.2.2.2.2.2.2.2.2.2.2.2 ⟨rfl, rfl, ⟨q92, eq92, by omega, by omega, v108, (xpl_e (by omega) (by omega) v110), v111⟩, v109⟩ (Nat.le_refl _) (Nat.le_refl _)
          · refine X_iloadn hK (i := 1) 2 kd30_3.2.2.2.2.1 rfl rfl ?_
            refine X_bipush hK kd30_3.2.2.2.2.2.1 (by decide) ?_
            refine X_imul hK kd30_3.2.2.2.2.2.2.1 ?_
            refine X_iload hK (i := 6) 0 kd30_3.2.2.2.2.2.2.2.1 rfl ?_
            refine X_iadd hK kd30_3.2.2.2.2.2.2.2.2.1 ?_
            refine X_istore hK (i := 7) [(7, .int (iI ((x1 * 8) + z90))), (6, .int (iI z90)), (0, .ref a0), (1, .int (iI x1)), (2, .int (iI x2)), (3, .int (iI x3)), (4, .long y4)] kd30_3.2.2.2.2.2.2.2.2.2.1 (by decide) rfl ?_
            refine X_lload hK (i := 4) 6 kd30_3.2.2.2.2.2.2.2.2.2.2.1 rfl ?_
            refine X_iload hK (i := 7) 0 kd30_3.2.2.2.2.2.2.2.2.2.2.2 rfl ?_
            refine X_lushrE hK kd30_4.1 ?_
            refine X_lconstE hK (a := 1) (by decide +kernel) kd30_4.2.1 ?_
            refine X_landE hK kd30_4.2.2.1 ?_
            refine X_lconstE hK (a := 0) (by decide +kernel) kd30_4.2.2.2.1 ?_
            refine X_lcmpE hK kd30_4.2.2.2.2.1 (fun z113 lz113 uz113 ez113 fz113 => ?_)
            have hx114 : z113 = 0 ↔ xbt y4 (8 * 1 + z90).toNat = false := ez113.trans (by rw [show 8 * 1 + z90 = ((x1 * 8) + z90) by omega]; exact xbt_at y4 (by omega))
            refine X_if_ne hK 135 (by omega) kd30_4.2.2.2.2.2.1 (by decide) (fun c115 => ?_) (fun c115 => ?_)
            · refine X_iinc hK (i := 6) (z := z90) (n := 1) 1 [(6, .int (iI (z90 + 1))), (7, .int (iI ((x1 * 8) + z90))), (0, .ref a0), (1, .int (iI x1)), (2, .int (iI x2)), (3, .int (iI x3)), (4, .long y4)] kd30_6.2.2.2.2.2.2.2.2.2.1 rfl (by decide) rfl ?_
              refine X_goto hK 65 kd30_6.2.2.2.2.2.2.2.2.2.2.1 (by decide) ?_
              refine X_lv [(6, .int (iI (z90 + 1))), (0, .ref a0), (1, .int (iI x1)), (2, .int (iI x2)), (3, .int (iI x3)), (4, .long y4)] [0, 2, 3, 4, 5, 6] rfl ?_
              exact ihP107  g91 (xM.tr xM.rf xLe.rf hg91 (by decide)) (z90 + 1) (by omega) (by omega) q92 (by omega) (by omega) eq92 v108 v109 (xplS (by omega) (by omega) v110 (xpl_bar hp6 (by omega) (by omega) (by have h8 := hx114; cases hb9 : xbt y4 (8 * 1 + z90).toNat with | true => rfl | false => exact absurd (h8.mpr hb9) (by omega)))) v111 (by omega)
            · refine X_aloadn hK (i := 0) 2 kd30_4.2.2.2.2.2.2.1 rfl rfl ?_
              refine X_getK hK fl_X6_28_7 hs_a0 ((hg91 a0 7 0 5 hs_a0 (by decide)).trans ew5) kd30_4.2.2.2.2.2.2.2.1 ?_
              refine X_iloadn hK (i := 1) 3 kd30_4.2.2.2.2.2.2.2.2.1 rfl rfl ?_
              refine X_iload hK (i := 6) 1 kd30_4.2.2.2.2.2.2.2.2.2.1 rfl ?_
              refine X_iast hK hs_w5 (by decide) (by decide) sl_12500 (by omega) (by omega) (by omega) (by omega) kd30_4.2.2.2.2.2.2.2.2.2.2.1 (fun g116 hg116 => ?_)
              refine X_aloadn hK (i := 0) 2 kd30_4.2.2.2.2.2.2.2.2.2.2.2 rfl rfl ?_
              refine X_iloadn hK (i := 1) 3 kd30_5.1 rfl rfl ?_
              refine X_iconst hK kd30_5.2.1 ?_
              refine X_iadd hK kd30_5.2.2.1 ?_
              refine X_iloadn hK (i := 2) 4 kd30_5.2.2.2.1 rfl rfl ?_
              refine X_iconst hK kd30_5.2.2.2.2.1 ?_
              refine X_iload hK (i := 6) 1 kd30_5.2.2.2.2.2.1 rfl ?_
              refine X_ishl hK kd30_5.2.2.2.2.2.2.1 (fun z117 ez117 lz117 uz117 => ?_)
              have bz117 := xshlB 7 ez117 ⟨lz117, uz117⟩ (by omega) (by decide)
              refine X_ior hK kd30_5.2.2.2.2.2.2.2.1 (fun z118 ez118 lz118 uz118 => ?_)
              have bz118 := xiorB 8 ez118 ⟨lz118, uz118⟩ (by omega) (by omega) (by decide)
              refine X_iloadn hK (i := 3) 5 kd30_5.2.2.2.2.2.2.2.2.1 rfl rfl ?_
              refine X_aloadn hK (i := 0) 2 kd30_5.2.2.2.2.2.2.2.2.2.1 rfl rfl ?_
              refine X_getK hK fl_X6_15_7 hs_a0 ((xs_a hg116 (xne hs_a0 hs_w5 (by decide))).trans ((hg91 a0 7 0 1 hs_a0 (by decide)).trans ew1)) kd30_5.2.2.2.2.2.2.2.2.2.2.1 ?_
              refine X_iload hK (i := 7) 0 kd30_5.2.2.2.2.2.2.2.2.2.2.2 rfl ?_
              refine X_iald hK hs_w1 (by decide) sl_12100 (by omega) (by omega) kd30_6.1 (fun z119 ez119 lz119 uz119 => ?_)
              have hq120 : xv g w1 (8 * 1 + z90) = z119 := (by rw [show 8 * 1 + z90 = ((x1 * 8) + z90) by omega]; exact xv_e (j := ((x1 * 8) + z90)) (((xs_a hg116 (xne hs_w1 hs_w5 (by decide))).trans (hg91 _ _ _ _ hs_w1 (by rw [xky_a (by decide)]; decide))).symm.trans ez119) (by omega))
              refine X_iadd hK kd30_6.2.1 ?_
              refine X_lload hK (i := 4) 6 kd30_6.2.2.1 rfl ?_
              refine X_aloadn hK (i := 0) 2 kd30_6.2.2.2.1 rfl rfl ?_
              refine X_getK hK fl_X6_38_7 hs_a0 ((xs_a hg116 (xne hs_a0 hs_w5 (by decide))).trans ((hg91 a0 7 0 8 hs_a0 (by decide)).trans ew8)) kd30_6.2.2.2.2.1 ?_
              refine X_iload hK (i := 7) 0 kd30_6.2.2.2.2.2.1 rfl ?_
              refine X_laldE hK hs_w8 (by decide) sl_12802 (by omega) (by omega) kd30_6.2.2.2.2.2.2.1 (fun y121 ey121 => ?_)
              have hl122 : xvl g w8 (8 * 1 + z90) = y121 := (by rw [show 8 * 1 + z90 = ((x1 * 8) + z90) by omega]; exact xvl_e (j := ((x1 * 8) + z90)) (((xs_a hg116 (xne hs_w8 hs_w5 (by decide))).trans (hg91 _ _ _ _ hs_w8 (by rw [xky_a (by decide)]; decide))).symm.trans ey121))
              refine X_lorE hK kd30_6.2.2.2.2.2.2.2.1 ?_
              refine X_callV hK [.int (iI (x1 + 1)), .int (iI z118), .int (iI (x3 + z119)), .long (y4 ||| y121)] [] lk_X6_80 (c3_place_2 _ _ _ _ _ S g116 a0 (x1 + 1) z118 (x3 + z119) (y4 ||| y121) n0 w3 q92 w1 w2 w5 w6 w8 sq hs_a0 (by omega) (by omega) (by omega) (by omega) ((xs_a hg116 (xne hs_a0 hs_w5 (by decide))).trans ((hg91 a0 7 0 0 hs_a0 (by decide)).trans en0)) ((xs_a hg116 (xne hs_a0 hs_w5 (by decide))).trans ((hg91 a0 7 0 3 hs_a0 (by decide)).trans ew3)) hs_w3 (by omega) ((xs_a hg116 (xne hs_a0 hs_w5 (by decide))).trans eq92) ((xs_a hg116 (xne hs_a0 hs_w5 (by decide))).trans ((hg91 a0 7 0 1 hs_a0 (by decide)).trans ew1)) hs_w1 ((xs_a hg116 (xne hs_a0 hs_w5 (by decide))).trans ((hg91 a0 7 0 2 hs_a0 (by decide)).trans ew2)) hs_w2 ((xs_a hg116 (xne hs_a0 hs_w5 (by decide))).trans ((hg91 a0 7 0 5 hs_a0 (by decide)).trans ew5)) hs_w5 ((xs_a hg116 (xne hs_a0 hs_w5 (by decide))).trans ((hg91 a0 7 0 6 hs_a0 (by decide)).trans ew6)) hs_w6 ((xs_a hg116 (xne hs_a0 hs_w5 (by decide))).trans ((hg91 a0 7 0 8 hs_a0 (by decide)).trans ew8)) hs_w8 (by rw [(xv_a hg116 (xne hs_w3 hs_w5 (by decide)))]; exact v108) (by rw [(Eq.trans (xv_a hg116 (xne hs_w1 hs_w5 (by decide))) (xv_m hg91 hs_w1 (by decide) (by decide))), (Eq.trans (xv_a hg116 (xne hs_w6 hs_w5 (by decide))) (xv_m hg91 hs_w6 (by decide) (by decide)))]; exact hp1) (by rw [(Eq.trans (xv_a hg116 (xne hs_w1 hs_w5 (by decide))) (xv_m hg91 hs_w1 (by decide) (by decide))), (Eq.trans (xv_a hg116 (xne hs_w2 hs_w5 (by decide))) (xv_m hg91 hs_w2 (by decide) (by decide))), (Eq.trans (xvl_a hg116 (xne hs_w8 hs_w5 (by decide))) (xvl_m hg91 hs_w8 (by decide) (by decide)))]; exact hp2) (xpl_t (bn := 1) (by omega) hp5 rfl (by omega) hp6 (by omega) (hx114.mp (by omega)) hp3 ez117 ez118 (by omega) (show xv g116 w5 1 = z90 from by rw [show (1 : Int) = x1 by omega]; exact (show xv g116 w5 x1 = z90 from by rw [xv_s hg116 (by omega)])) (fun k9 q1 q2 => (show xv g116 w5 k9 = xv g91 w5 k9 from by rw [(xv_k (i := k9) hg116 (by omega) (by omega) (by omega))]).trans (v111 k9 q1 q2))) (by rw [(Eq.trans (xv_a hg116 (xne hs_w1 hs_w5 (by decide))) (xv_m hg91 hs_w1 (by decide) (by decide)))]; exact (xpl_p (bn := 1) rfl hp4 hq120 (show xv g116 w5 1 = z90 from by rw [show (1 : Int) = x1 by omega]; exact (show xv g116 w5 x1 = z90 from by rw [xv_s hg116 (by omega)])) (fun k9 q1 q2 => (show xv g116 w5 k9 = xv g91 w5 k9 from by rw [(xv_k (i := k9) hg116 (by omega) (by omega) (by omega))]).trans (v111 k9 q1 q2)))) (by rw [(Eq.trans (xv_a hg116 (xne hs_w1 hs_w5 (by decide))) (xv_m hg91 hs_w1 (by decide) (by decide))), (Eq.trans (xv_a hg116 (xne hs_w2 hs_w5 (by decide))) (xv_m hg91 hs_w2 (by decide) (by decide)))]; exact (xPt.s hp5 hp6 (by omega) (by omega) (hx114.mp (by omega)) (show xv g116 w5 1 = z90 from by rw [show (1 : Int) = x1 by omega]; exact (show xv g116 w5 x1 = z90 from by rw [xv_s hg116 (by omega)])) (fun k9 q1 q2 => (show xv g116 w5 k9 = xv g91 w5 k9 from by rw [(xv_k (i := k9) hg116 (by omega) (by omega) (by omega))]).trans (v111 k9 q1 q2)))) (by rw [(Eq.trans (xv_a hg116 (xne hs_w1 hs_w5 (by decide))) (xv_m hg91 hs_w1 (by decide) (by decide))), (Eq.trans (xv_a hg116 (xne hs_w2 hs_w5 (by decide))) (xv_m hg91 hs_w2 (by decide) (by decide)))]; exact (xBr.s hp6 (by omega) (by rw [← hl122]; exact hp2 1 z90 (by omega) (by omega) (by omega) (by omega) (Or.inl (by omega))) (by omega) (show xv g116 w5 1 = z90 from by rw [show (1 : Int) = x1 by omega]; exact (show xv g116 w5 x1 = z90 from by rw [xv_s hg116 (by omega)])) (fun k9 q1 q2 => (show xv g116 w5 k9 = xv g91 w5 k9 from by rw [(xv_k (i := k9) hg116 (by omega) (by omega) (by omega))]).trans (v111 k9 q1 q2))))) hs_a0 ⟨by decide, rfl⟩ kd30_6.2.2.2.2.2.2.2.2.1 rfl rfl (by simp [Value.category]) (by decide) (by decide) (by decide) (by decide) (fun r123 S125 g124 pr123 qr123 hg124 => ?_)
              obtain ⟨rfl, rfl, k126, k127⟩ := pr123
              refine X_st [] rfl ?_
              obtain ⟨z128, ez128, lz128, uz128, kz128, dz128, tz128⟩ := k126
              refine X_iinc hK (i := 6) (z := z90) (n := 1) 1 [(6, .int (iI (z90 + 1))), (7, .int (iI ((x1 * 8) + z90))), (0, .ref a0), (1, .int (iI x1)), (2, .int (iI x2)), (3, .int (iI x3)), (4, .long y4)] kd30_6.2.2.2.2.2.2.2.2.2.1 rfl (by decide) rfl ?_
              refine X_goto hK 65 kd30_6.2.2.2.2.2.2.2.2.2.2.1 (by decide) ?_
              refine X_lv [(6, .int (iI (z90 + 1))), (0, .ref a0), (1, .int (iI x1)), (2, .int (iI x2)), (3, .int (iI x3)), (4, .long y4)] [0, 2, 3, 4, 5, 6] rfl ?_
              exact ihP107  g124 (xM.tr (xM_ua (xM.tr xM.rf xLe.rf hg91 (by decide)) hg116 hs_w5 (by decide) (by decide)) xLe.rf hg124 (by decide)) (z90 + 1) (by omega) (by omega) z128 (by omega) (by omega) ez128 kz128 (xFr.tr (xFr.t v109 hg116 hs_w5 (by decide)) k127) (xplS (by omega) (by omega) v110 (xpl_in (by omega) (show xv g116 w5 1 = z90 from by rw [show (1 : Int) = x1 by omega]; exact (show xv g116 w5 x1 = z90 from by rw [xv_s hg116 (by omega)])) (fun k9 q1 q2 => (show xv g116 w5 k9 = xv g91 w5 k9 from by rw [(xv_k (i := k9) hg116 (by omega) (by omega) (by omega))]).trans (v111 k9 q1 q2)) (by rw [← (Eq.trans (xv_a hg116 (xne hs_w1 hs_w5 (by decide))) (xv_m hg91 hs_w1 (by decide) (by decide))), ← (Eq.trans (xv_a hg116 (xne hs_w2 hs_w5 (by decide))) (xv_m hg91 hs_w2 (by decide) (by decide))), ← (xv_a hg116 (xne hs_w3 hs_w5 (by decide)))]; exact dz128))) (fun k9 q1 q2 => (tz128 k9 q1 (by omega)).trans ((show xv g116 w5 k9 = xv g91 w5 k9 from by rw [(xv_k (i := k9) hg116 (by omega) (by omega) (by omega))]).trans (v111 k9 q1 q2))) (by omega)
      exact P107 ((24 - 0 : Int).toNat + 1) g xM.rf 0 (by omega) (by omega) m0 (by omega) (by omega) em0 hp0 xFr.rf (xpl_0 (by omega)) (fun _ _ _ => rfl) (by omega)
    · refine X_aloadn hK (i := 0) 0 kd30_1.2.2.1 rfl rfl ?_
      refine X_iloadn hK (i := 3) 3 kd30_1.2.2.2.1 rfl rfl ?_
      refine X_puti hK fl_X6_42_7 hs_a0 (by decide) sl_7_9 (by omega) (by omega) kd30_1.2.2.2.2.1 (fun g129 hg129 => ?_)
      refine X_iconst hK kd30_1.2.2.2.2.2.1 ?_
      refine X_istore hK (i := 6) [(6, .int (iI 0)), (0, .ref a0), (1, .int (iI x1)), (2, .int (iI x2)), (3, .int (iI x3)), (4, .long y4)] kd30_1.2.2.2.2.2.2.1 (by decide) rfl ?_
      have P159 : ∀ (nP159 : Nat) (g155 : xG) (_ : xM [(12300, 0)] S g129 g155) (z154 : Int) (_ : 0 ≤ z154) (_ : z154 ≤ 1) (_ : ∀ k, 0 ≤ k → k < z154 → 0 ≤ xv g155 w3 k) (_ : ∀ k, 0 ≤ k → k < z154 → xv g155 w3 k = xv g w5 k) (_ : xFr 12300 S g g155 w3) (_ : 17 - z154 < (nP159 : Int)), X K E 32 [(6, .int (iI z154)), (0, .ref a0), (1, .int (iI x1)), (2, .int (iI x2)), (3, .int (iI x3)), (4, .long y4)] [] S g155 0 0 := by
        intro nP159
        induction nP159 with
        | zero => intro g155 hg155 z154 lz154 uz154 v160 v161 v162 mP159; exact False.elim (by omega)
        | succ nP159 ihP159 =>
          intro g155 hg155 z154 lz154 uz154 v160 v161 v162 mP159
          refine X_iload hK (i := 6) 0 kd30_1.2.2.2.2.2.2.2.1 rfl ?_
          refine X_aloadn hK (i := 0) 1 kd30_1.2.2.2.2.2.2.2.2.1 rfl rfl ?_
          refine X_getK hK fl_X6_9_7 hs_a0 ((hg155 a0 7 0 0 hs_a0 (by decide)).trans ((xs_k hg129 (by decide)).trans en0)) kd30_1.2.2.2.2.2.2.2.2.2.1 ?_
          refine X_icmp_ge hK 61 (by omega) (by omega) kd30_1.2.2.2.2.2.2.2.2.2.2.1 (by decide) (fun c163 => ?_) (fun c163 => ?_)
          · exact hret _ _ _ _ _ _ kd30_2.2.2.2.2.2.2.2.2.2.1 ⟨rfl, rfl, ⟨x3, ((hg155 a0 7 0 9 hs_a0 (by decide)).trans (xs_s hg129)), by omega, by omega, Or.inr (fun k q1 q2 => v160 k q1 (by omega)), (xpl_leaf2 (bn := 1) rfl (by omega) (by omega) hp5 hp4 (by have h9 := xpl_z (bn := 1) (by omega) hp5 rfl (by omega) hp1.2.2 hp3 hv2; omega) (fun k9 q1 q2 => v161 k9 q1 (by omega))), (fun k9 q1 q2 => by rw [(Eq.trans (xv_m hg155 hs_w5 (by decide) (by decide)) (xv_a hg129 (xne hs_w5 hs_a0 (by decide))))])⟩, v162⟩ (Nat.le_refl _) (Nat.le_refl _)
          · refine X_aloadn hK (i := 0) 1 kd30_1.2.2.2.2.2.2.2.2.2.2.2 rfl rfl ?_
            refine X_getK hK fl_X6_22_7 hs_a0 ((hg155 a0 7 0 3 hs_a0 (by decide)).trans ((xs_k hg129 (by decide)).trans ew3)) kd30_2.1 ?_
            refine X_iload hK (i := 6) 0 kd30_2.2.1 rfl ?_
            refine X_aloadn hK (i := 0) 1 kd30_2.2.2.1 rfl rfl ?_
            refine X_getK hK fl_X6_28_7 hs_a0 ((hg155 a0 7 0 5 hs_a0 (by decide)).trans ((xs_k hg129 (by decide)).trans ew5)) kd30_2.2.2.2.1 ?_
            refine X_iload hK (i := 6) 0 kd30_2.2.2.2.2.1 rfl ?_
            refine X_iald hK hs_w5 (by decide) sl_12500 (by omega) (by omega) kd30_2.2.2.2.2.2.1 (fun z164 ez164 lz164 uz164 => ?_)
            have hq165 : xv g w5 z154 = z164 := xv_e (j := z154) (((hg155 _ _ _ _ hs_w5 (by rw [xky_a (by decide)]; decide)).trans (xs_a hg129 (xne hs_w5 hs_a0 (by decide)))).symm.trans ez164) (by omega)
            refine X_iast hK hs_w3 (by decide) (by decide) sl_12300 (by omega) (by omega) (by omega) (by omega) kd30_2.2.2.2.2.2.2.1 (fun g166 hg166 => ?_)
            refine X_iinc hK (i := 6) (z := z154) (n := 1) 0 [(6, .int (iI (z154 + 1))), (0, .ref a0), (1, .int (iI x1)), (2, .int (iI x2)), (3, .int (iI x3)), (4, .long y4)] kd30_2.2.2.2.2.2.2.2.1 rfl (by decide) rfl ?_
            refine X_goto hK 32 kd30_2.2.2.2.2.2.2.2.2.1 (by decide) ?_
            exact ihP159  g166 (xM_ua (xM.tr xM.rf xLe.rf hg155 (by decide)) hg166 hs_w3 (by decide) (by decide)) (z154 + 1) (by omega) (by omega) (xpre (P := fun x => 0 ≤ x) v160 (fun i9 hi9 h09 => (show xv g166 w3 i9 = xv g155 w3 i9 from by rw [(xv_k (i := i9) hg166 (by omega) (by omega) (by omega))])) (by rw [show xv g166 w3 z154 = _ from (show xv g166 w3 z154 = z164 from by rw [xv_s hg166 (by omega)])]; omega)) (fun k9 q1 q2 => by by_cases e9 : k9 = z154; (rw [e9, (show xv g166 w3 z154 = z164 from by rw [xv_s hg166 (by omega)])]; exact hq165.symm); (rw [(show xv g166 w3 k9 = xv g155 w3 k9 from by rw [(xv_k (i := k9) hg166 (by omega) (by omega) (by omega))])]; exact v161 k9 q1 (by omega))) (xFr.w v162 hg166) (by omega)
      exact P159 ((17 - 0 : Int).toNat + 1) g129 xM.rf 0 (by omega) (by omega) (fun k q1 q2 => by omega) (fun k q1 q2 => by omega) (xFr.t xFr.rf hg129 hs_a0 (by decide)) (by omega)
  · exact hret _ _ _ _ _ _ kd30_0.2.2.2.2.2.2.2.2.2.1 ⟨rfl, rfl, ⟨m0, em0, by omega, by omega, hp0, (xpl_prune2 (bn := 1) rfl (by omega) hp1.1 hp3 hp4 hv2 (by omega)), (fun _ _ _ => rfl)⟩, xFr.rf⟩ (Nat.le_refl _) (Nat.le_refl _)

set_option maxHeartbeats 4000000 in
set_option maxRecDepth 100000 in
theorem c3_place_0 (l : Launch) (D : va_G) (kA : Nat → ClassId) (b0 : Nat) (t0 : Nat → Nat) (S : xT) (g : xG) (a0 : Nat) (x1 : Int) (x2 : Int) (x3 : Int) (y4 : Int64) (n0 : Int) (w3 : Nat) (m0 : Int) (w1 : Nat) (w2 : Nat) (w5 : Nat) (w6 : Nat) (w8 : Nat) (sq : Int) (hs_a0 : S a0 = some (7, 0)) (hx1 : 0 ≤ x1 ∧ x1 ≤ 0) (hx2 : 0 ≤ x2 ∧ x2 ≤ 255) (hx3 : 0 ≤ x3 ∧ x3 ≤ 0) (hn0 : 1 ≤ n0 ∧ n0 ≤ 8) (en0 : g a0 0 = .int (iI n0)) (ew3 : g a0 3 = .ref w3) (hs_w3 : S w3 = some (12300, 8)) (hm0 : (-2147483648) ≤ m0 ∧ m0 ≤ 2147483647) (em0 : g a0 9 = .int (iI m0)) (ew1 : g a0 1 = .ref w1) (hs_w1 : S w1 = some (12100, 64)) (ew2 : g a0 2 = .ref w2) (hs_w2 : S w2 = some (12200, 64)) (ew5 : g a0 5 = .ref w5) (hs_w5 : S w5 = some (12500, 8)) (ew6 : g a0 6 = .ref w6) (hs_w6 : S w6 = some (12600, 256)) (ew8 : g a0 8 = .ref w8) (hs_w8 : S w8 = some (12802, 64)) (hp0 : m0 = -1 ∨ xCo n0 (xv g w3)) (hp1 : xRs n0 (xv g w1) (xv g w6) ∧ xRb n0 (xv g w6) (-1) ∧ (xv g w6) (((2 ^ n0.toNat : Nat) : Int) - 1) = 0) (hp2 : xCm n0 (xv g w1) (xv g w2) sq (xvl g w8) n0 0) (hp3 : x2 = ((xmk (xv g w5) 0 : Nat) : Int)) (hp4 : x3 = xps (xv g w1) (xv g w5) 0) (hp5 : xPt n0 (xv g w1) (xv g w2) sq (xv g w5) 0) (hp6 : xBr n0 (xv g w1) (xv g w2) sq (xv g w5) 0 y4) : xMt l yX6_place cX6_place 8 none 8 0 0 216 D kA b0 t0 [(12500, 0), (7, 9), (12300, 0)] [.ref a0, .int (iI x1), .int (iI x2), .int (iI x3), .long y4] S g (fun (r : Option Value) (S1 : xT) (g1 : xG) => S = S1 ∧ r = none ∧ (∃ z9 : Int, g1 a0 9 = .int (iI z9) ∧ -2147483648 ≤ z9 ∧ z9 ≤ 2147483647 ∧ (z9 = -1 ∨ xCo n0 (xv g1 w3)) ∧ xD (xAg (xv g w5) 0) n0 (xv g w1) (xv g w2) sq m0 z9 (xv g w3) (xv g1 w3) ∧ ∀ k : Int, 0 ≤ k → k < 0 → xv g1 w5 k = xv g w5 k) ∧ (xFr 12300 S g g1 w3)) := by
  refine xEnterV (by decide) (by simp [lg_sl, Value.category]) [(0, .ref a0), (1, .int (iI x1)), (2, .int (iI x2)), (3, .int (iI x3)), (4, .long y4)] rfl ?_
  intro K E hK hret _ _ _
  refine X_iloadn hK (i := 3) 3 kd30_0.1 rfl rfl ?_
  refine X_aloadn hK (i := 0) 0 kd30_0.2.1 rfl rfl ?_
  refine X_getK hK fl_X6_31_7 hs_a0 ew6 kd30_0.2.2.1 ?_
  refine X_iloadn hK (i := 2) 2 kd30_0.2.2.2.1 rfl rfl ?_
  refine X_iald hK hs_w6 (by decide) sl_12600 (by omega) (by omega) kd30_0.2.2.2.2.1 (fun z1 ez1 lz1 uz1 => ?_)
  have hv2 : xv g w6 x2 = z1 := xv_e (j := x2) ez1 (by omega)
  have hb3 := xpl_r (bn := 0) (by omega) hp5 rfl (by omega) hp1.2.1 hp3 hv2
  refine X_iadd hK kd30_0.2.2.2.2.2.1 ?_
  refine X_aloadn hK (i := 0) 0 kd30_0.2.2.2.2.2.2.1 rfl rfl ?_
  refine X_getK hK fl_X6_42_7 hs_a0 em0 kd30_0.2.2.2.2.2.2.2.1 ?_
  refine X_icmp_gt hK 16 (by omega) (by omega) kd30_0.2.2.2.2.2.2.2.2.1 (by decide) (fun c4 => ?_) (fun c4 => ?_)
  · refine X_iloadn hK (i := 1) 1 kd30_0.2.2.2.2.2.2.2.2.2.2.1 rfl rfl ?_
    refine X_aloadn hK (i := 0) 0 kd30_0.2.2.2.2.2.2.2.2.2.2.2 rfl rfl ?_
    refine X_getK hK fl_X6_9_7 hs_a0 en0 kd30_1.1 ?_
    refine X_icmp_ne hK 62 (by omega) (by omega) kd30_1.2.1 (by decide) (fun c5 => ?_) (fun c5 => False.elim (by omega))
    refine X_iconst hK kd30_2.2.2.2.2.2.2.2.2.2.2.1 ?_
    refine X_istore hK (i := 6) [(6, .int (iI 0)), (0, .ref a0), (1, .int (iI x1)), (2, .int (iI x2)), (3, .int (iI x3)), (4, .long y4)] kd30_2.2.2.2.2.2.2.2.2.2.2.2 (by decide) rfl ?_
    have P107 : ∀ (nP107 : Nat) (g91 : xG) (_ : xM [(12500, 0), (7, 9), (12300, 0)] S g g91) (z90 : Int) (_ : 0 ≤ z90) (_ : z90 ≤ 8) (q92 : Int) (_ : (-2147483648) ≤ q92) (_ : q92 ≤ 2147483647) (_ : g91 a0 9 = .int (iI q92)) (_ : q92 = -1 ∨ xCo n0 (xv g91 w3)) (_ : xFr 12300 S g g91 w3) (_ : xD (fun u => xAg (xv g w5) 0 u ∧ u 0 < z90) n0 (xv g w1) (xv g w2) sq m0 q92 (xv g w3) (xv g91 w3)) (_ : ∀ k : Int, 0 ≤ k → k < 0 → xv g91 w5 k = xv g w5 k) (_ : 24 - z90 < (nP107 : Int)), X K E 65 [(6, .int (iI z90)), (0, .ref a0), (1, .int (iI x1)), (2, .int (iI x2)), (3, .int (iI x3)), (4, .long y4)] [] S g91 0 0 := by
      intro nP107
      induction nP107 with
      | zero => intro g91 hg91 z90 lz90 uz90 q92 lq92 uq92 eq92 v108 v109 v110 v111 mP107; exact False.elim (by omega)
      | succ nP107 ihP107 =>
        intro g91 hg91 z90 lz90 uz90 q92 lq92 uq92 eq92 v108 v109 v110 v111 mP107
        refine X_iload hK (i := 6) 0 kd30_3.1 rfl ?_
        refine X_aloadn hK (i := 0) 1 kd30_3.2.1 rfl rfl ?_
        refine X_getK hK fl_X6_9_7 hs_a0 ((hg91 a0 7 0 0 hs_a0 (by decide)).trans en0) kd30_3.2.2.1 ?_
        refine X_icmp_ge hK 141 (by omega) (by omega) kd30_3.2.2.2.1 (by decide) (fun c112 => ?_) (fun c112 => ?_)
        · exact hret _ _ _ _ _ _ kd30_6.2.2.2.2.2.2.2.2.2.2.2 ⟨rfl, rfl, ⟨q92, eq92, by omega, by omega, v108, (xpl_e (by omega) (by omega) v110), v111⟩, v109⟩ (Nat.le_refl _) (Nat.le_refl _)
        · refine X_iloadn hK (i := 1) 2 kd30_3.2.2.2.2.1 rfl rfl ?_
          refine X_bipush hK kd30_3.2.2.2.2.2.1 (by decide) ?_
          refine X_imul hK kd30_3.2.2.2.2.2.2.1 ?_
          refine X_iload hK (i := 6) 0 kd30_3.2.2.2.2.2.2.2.1 rfl ?_
          refine X_iadd hK kd30_3.2.2.2.2.2.2.2.2.1 ?_
          refine X_istore hK (i := 7) [(7, .int (iI ((x1 * 8) + z90))), (6, .int (iI z90)), (0, .ref a0), (1, .int (iI x1)), (2, .int (iI x2)), (3, .int (iI x3)), (4, .long y4)] kd30_3.2.2.2.2.2.2.2.2.2.1 (by decide) rfl ?_
          refine X_lload hK (i := 4) 6 kd30_3.2.2.2.2.2.2.2.2.2.2.1 rfl ?_
          refine X_iload hK (i := 7) 0 kd30_3.2.2.2.2.2.2.2.2.2.2.2 rfl ?_
          refine X_lushrE hK kd30_4.1 ?_
          refine X_lconstE hK (a := 1) (by decide +kernel) kd30_4.2.1 ?_
          refine X_landE hK kd30_4.2.2.1 ?_
          refine X_lconstE hK (a := 0) (by decide +kernel) kd30_4.2.2.2.1 ?_
          refine X_lcmpE hK kd30_4.2.2.2.2.1 (fun z113 lz113 uz113 ez113 fz113 => ?_)
          have hx114 : z113 = 0 ↔ xbt y4 (8 * 0 + z90).toNat = false := ez113.trans (by rw [show 8 * 0 + z90 = ((x1 * 8) + z90) by omega]; exact xbt_at y4 (by omega))
          refine X_if_ne hK 135 (by omega) kd30_4.2.2.2.2.2.1 (by decide) (fun c115 => ?_) (fun c115 => ?_)
          · refine X_iinc hK (i := 6) (z := z90) (n := 1) 1 [(6, .int (iI (z90 + 1))), (7, .int (iI ((x1 * 8) + z90))), (0, .ref a0), (1, .int (iI x1)), (2, .int (iI x2)), (3, .int (iI x3)), (4, .long y4)] kd30_6.2.2.2.2.2.2.2.2.2.1 rfl (by decide) rfl ?_
            refine X_goto hK 65 kd30_6.2.2.2.2.2.2.2.2.2.2.1 (by decide) ?_
            refine X_lv [(6, .int (iI (z90 + 1))), (0, .ref a0), (1, .int (iI x1)), (2, .int (iI x2)), (3, .int (iI x3)), (4, .long y4)] [0, 2, 3, 4, 5, 6] rfl ?_
            exact ihP107  g91 (xM.tr xM.rf xLe.rf hg91 (by decide)) (z90 + 1) (by omega) (by omega) q92 (by omega) (by omega) eq92 v108 v109 (xplS (by omega) (by omega) v110 (xpl_bar hp6 (by omega) (by omega) (by have h8 := hx114; cases hb9 : xbt y4 (8 * 0 + z90).toNat with | true => rfl | false => exact absurd (h8.mpr hb9) (by omega)))) v111 (by omega)
          · refine X_aloadn hK (i := 0) 2 kd30_4.2.2.2.2.2.2.1 rfl rfl ?_
            refine X_getK hK fl_X6_28_7 hs_a0 ((hg91 a0 7 0 5 hs_a0 (by decide)).trans ew5) kd30_4.2.2.2.2.2.2.2.1 ?_
            refine X_iloadn hK (i := 1) 3 kd30_4.2.2.2.2.2.2.2.2.1 rfl rfl ?_
            refine X_iload hK (i := 6) 1 kd30_4.2.2.2.2.2.2.2.2.2.1 rfl ?_
            refine X_iast hK hs_w5 (by decide) (by decide) sl_12500 (by omega) (by omega) (by omega) (by omega) kd30_4.2.2.2.2.2.2.2.2.2.2.1 (fun g116 hg116 => ?_)
            refine X_aloadn hK (i := 0) 2 kd30_4.2.2.2.2.2.2.2.2.2.2.2 rfl rfl ?_
            refine X_iloadn hK (i := 1) 3 kd30_5.1 rfl rfl ?_
            refine X_iconst hK kd30_5.2.1 ?_
            refine X_iadd hK kd30_5.2.2.1 ?_
            refine X_iloadn hK (i := 2) 4 kd30_5.2.2.2.1 rfl rfl ?_
            refine X_iconst hK kd30_5.2.2.2.2.1 ?_
            refine X_iload hK (i := 6) 1 kd30_5.2.2.2.2.2.1 rfl ?_
            refine X_ishl hK kd30_5.2.2.2.2.2.2.1 (fun z117 ez117 lz117 uz117 => ?_)
            have bz117 := xshlB 7 ez117 ⟨lz117, uz117⟩ (by omega) (by decide)
            refine X_ior hK kd30_5.2.2.2.2.2.2.2.1 (fun z118 ez118 lz118 uz118 => ?_)
            have bz118 := xiorB 8 ez118 ⟨lz118, uz118⟩ (by omega) (by omega) (by decide)
            refine X_iloadn hK (i := 3) 5 kd30_5.2.2.2.2.2.2.2.2.1 rfl rfl ?_
            refine X_aloadn hK (i := 0) 2 kd30_5.2.2.2.2.2.2.2.2.2.1 rfl rfl ?_
            refine X_getK hK fl_X6_15_7 hs_a0 ((xs_a hg116 (xne hs_a0 hs_w5 (by decide))).trans ((hg91 a0 7 0 1 hs_a0 (by decide)).trans ew1)) kd30_5.2.2.2.2.2.2.2.2.2.2.1 ?_
            refine X_iload hK (i := 7) 0 kd30_5.2.2.2.2.2.2.2.2.2.2.2 rfl ?_
            refine X_iald hK hs_w1 (by decide) sl_12100 (by omega) (by omega) kd30_6.1 (fun z119 ez119 lz119 uz119 => ?_)
            have hq120 : xv g w1 (8 * 0 + z90) = z119 := (by rw [show 8 * 0 + z90 = ((x1 * 8) + z90) by omega]; exact xv_e (j := ((x1 * 8) + z90)) (((xs_a hg116 (xne hs_w1 hs_w5 (by decide))).trans (hg91 _ _ _ _ hs_w1 (by rw [xky_a (by decide)]; decide))).symm.trans ez119) (by omega))
            refine X_iadd hK kd30_6.2.1 ?_
            refine X_lload hK (i := 4) 6 kd30_6.2.2.1 rfl ?_
            refine X_aloadn hK (i := 0) 2 kd30_6.2.2.2.1 rfl rfl ?_
            refine X_getK hK fl_X6_38_7 hs_a0 ((xs_a hg116 (xne hs_a0 hs_w5 (by decide))).trans ((hg91 a0 7 0 8 hs_a0 (by decide)).trans ew8)) kd30_6.2.2.2.2.1 ?_
            refine X_iload hK (i := 7) 0 kd30_6.2.2.2.2.2.1 rfl ?_
            refine X_laldE hK hs_w8 (by decide) sl_12802 (by omega) (by omega) kd30_6.2.2.2.2.2.2.1 (fun y121 ey121 => ?_)
            have hl122 : xvl g w8 (8 * 0 + z90) = y121 := (by rw [show 8 * 0 + z90 = ((x1 * 8) + z90) by omega]; exact xvl_e (j := ((x1 * 8) + z90)) (((xs_a hg116 (xne hs_w8 hs_w5 (by decide))).trans (hg91 _ _ _ _ hs_w8 (by rw [xky_a (by decide)]; decide))).symm.trans ey121))
            refine X_lorE hK kd30_6.2.2.2.2.2.2.2.1 ?_
            refine X_callV hK [.int (iI (x1 + 1)), .int (iI z118), .int (iI (x3 + z119)), .long (y4 ||| y121)] [] lk_X6_80 (c3_place_1 _ _ _ _ _ S g116 a0 (x1 + 1) z118 (x3 + z119) (y4 ||| y121) n0 w3 q92 w1 w2 w5 w6 w8 sq hs_a0 (by omega) (by omega) (by omega) (by omega) ((xs_a hg116 (xne hs_a0 hs_w5 (by decide))).trans ((hg91 a0 7 0 0 hs_a0 (by decide)).trans en0)) ((xs_a hg116 (xne hs_a0 hs_w5 (by decide))).trans ((hg91 a0 7 0 3 hs_a0 (by decide)).trans ew3)) hs_w3 (by omega) ((xs_a hg116 (xne hs_a0 hs_w5 (by decide))).trans eq92) ((xs_a hg116 (xne hs_a0 hs_w5 (by decide))).trans ((hg91 a0 7 0 1 hs_a0 (by decide)).trans ew1)) hs_w1 ((xs_a hg116 (xne hs_a0 hs_w5 (by decide))).trans ((hg91 a0 7 0 2 hs_a0 (by decide)).trans ew2)) hs_w2 ((xs_a hg116 (xne hs_a0 hs_w5 (by decide))).trans ((hg91 a0 7 0 5 hs_a0 (by decide)).trans ew5)) hs_w5 ((xs_a hg116 (xne hs_a0 hs_w5 (by decide))).trans ((hg91 a0 7 0 6 hs_a0 (by decide)).trans ew6)) hs_w6 ((xs_a hg116 (xne hs_a0 hs_w5 (by decide))).trans ((hg91 a0 7 0 8 hs_a0 (by decide)).trans ew8)) hs_w8 (by rw [(xv_a hg116 (xne hs_w3 hs_w5 (by decide)))]; exact v108) (by rw [(Eq.trans (xv_a hg116 (xne hs_w1 hs_w5 (by decide))) (xv_m hg91 hs_w1 (by decide) (by decide))), (Eq.trans (xv_a hg116 (xne hs_w6 hs_w5 (by decide))) (xv_m hg91 hs_w6 (by decide) (by decide)))]; exact hp1) (by rw [(Eq.trans (xv_a hg116 (xne hs_w1 hs_w5 (by decide))) (xv_m hg91 hs_w1 (by decide) (by decide))), (Eq.trans (xv_a hg116 (xne hs_w2 hs_w5 (by decide))) (xv_m hg91 hs_w2 (by decide) (by decide))), (Eq.trans (xvl_a hg116 (xne hs_w8 hs_w5 (by decide))) (xvl_m hg91 hs_w8 (by decide) (by decide)))]; exact hp2) (xpl_t (bn := 0) (by omega) hp5 rfl (by omega) hp6 (by omega) (hx114.mp (by omega)) hp3 ez117 ez118 (by omega) (show xv g116 w5 0 = z90 from by rw [show (0 : Int) = x1 by omega]; exact (show xv g116 w5 x1 = z90 from by rw [xv_s hg116 (by omega)])) (fun k9 q1 q2 => (show xv g116 w5 k9 = xv g91 w5 k9 from by rw [(xv_k (i := k9) hg116 (by omega) (by omega) (by omega))]).trans (v111 k9 q1 q2))) (by rw [(Eq.trans (xv_a hg116 (xne hs_w1 hs_w5 (by decide))) (xv_m hg91 hs_w1 (by decide) (by decide)))]; exact (xpl_p (bn := 0) rfl hp4 hq120 (show xv g116 w5 0 = z90 from by rw [show (0 : Int) = x1 by omega]; exact (show xv g116 w5 x1 = z90 from by rw [xv_s hg116 (by omega)])) (fun k9 q1 q2 => (show xv g116 w5 k9 = xv g91 w5 k9 from by rw [(xv_k (i := k9) hg116 (by omega) (by omega) (by omega))]).trans (v111 k9 q1 q2)))) (by rw [(Eq.trans (xv_a hg116 (xne hs_w1 hs_w5 (by decide))) (xv_m hg91 hs_w1 (by decide) (by decide))), (Eq.trans (xv_a hg116 (xne hs_w2 hs_w5 (by decide))) (xv_m hg91 hs_w2 (by decide) (by decide)))]; exact (xPt.s hp5 hp6 (by omega) (by omega) (hx114.mp (by omega)) (show xv g116 w5 0 = z90 from by rw [show (0 : Int) = x1 by omega]; exact (show xv g116 w5 x1 = z90 from by rw [xv_s hg116 (by omega)])) (fun k9 q1 q2 => (show xv g116 w5 k9 = xv g91 w5 k9 from by rw [(xv_k (i := k9) hg116 (by omega) (by omega) (by omega))]).trans (v111 k9 q1 q2)))) (by rw [(Eq.trans (xv_a hg116 (xne hs_w1 hs_w5 (by decide))) (xv_m hg91 hs_w1 (by decide) (by decide))), (Eq.trans (xv_a hg116 (xne hs_w2 hs_w5 (by decide))) (xv_m hg91 hs_w2 (by decide) (by decide)))]; exact (xBr.s hp6 (by omega) (by rw [← hl122]; exact hp2 0 z90 (by omega) (by omega) (by omega) (by omega) (Or.inl (by omega))) (by omega) (show xv g116 w5 0 = z90 from by rw [show (0 : Int) = x1 by omega]; exact (show xv g116 w5 x1 = z90 from by rw [xv_s hg116 (by omega)])) (fun k9 q1 q2 => (show xv g116 w5 k9 = xv g91 w5 k9 from by rw [(xv_k (i := k9) hg116 (by omega) (by omega) (by omega))]).trans (v111 k9 q1 q2))))) hs_a0 ⟨by decide, rfl⟩ kd30_6.2.2.2.2.2.2.2.2.1 rfl rfl (by simp [Value.category]) (by decide) (by decide) (by decide) (by decide) (fun r123 S125 g124 pr123 qr123 hg124 => ?_)
            obtain ⟨rfl, rfl, k126, k127⟩ := pr123
            refine X_st [] rfl ?_
            obtain ⟨z128, ez128, lz128, uz128, kz128, dz128, tz128⟩ := k126
            refine X_iinc hK (i := 6) (z := z90) (n := 1) 1 [(6, .int (iI (z90 + 1))), (7, .int (iI ((x1 * 8) + z90))), (0, .ref a0), (1, .int (iI x1)), (2, .int (iI x2)), (3, .int (iI x3)), (4, .long y4)] kd30_6.2.2.2.2.2.2.2.2.2.1 rfl (by decide) rfl ?_
            refine X_goto hK 65 kd30_6.2.2.2.2.2.2.2.2.2.2.1 (by decide) ?_
            refine X_lv [(6, .int (iI (z90 + 1))), (0, .ref a0), (1, .int (iI x1)), (2, .int (iI x2)), (3, .int (iI x3)), (4, .long y4)] [0, 2, 3, 4, 5, 6] rfl ?_
            exact ihP107  g124 (xM.tr (xM_ua (xM.tr xM.rf xLe.rf hg91 (by decide)) hg116 hs_w5 (by decide) (by decide)) xLe.rf hg124 (by decide)) (z90 + 1) (by omega) (by omega) z128 (by omega) (by omega) ez128 kz128 (xFr.tr (xFr.t v109 hg116 hs_w5 (by decide)) k127) (xplS (by omega) (by omega) v110 (xpl_in (by omega) (show xv g116 w5 0 = z90 from by rw [show (0 : Int) = x1 by omega]; exact (show xv g116 w5 x1 = z90 from by rw [xv_s hg116 (by omega)])) (fun k9 q1 q2 => (show xv g116 w5 k9 = xv g91 w5 k9 from by rw [(xv_k (i := k9) hg116 (by omega) (by omega) (by omega))]).trans (v111 k9 q1 q2)) (by rw [← (Eq.trans (xv_a hg116 (xne hs_w1 hs_w5 (by decide))) (xv_m hg91 hs_w1 (by decide) (by decide))), ← (Eq.trans (xv_a hg116 (xne hs_w2 hs_w5 (by decide))) (xv_m hg91 hs_w2 (by decide) (by decide))), ← (xv_a hg116 (xne hs_w3 hs_w5 (by decide)))]; exact dz128))) (fun k9 q1 q2 => (tz128 k9 q1 (by omega)).trans ((show xv g116 w5 k9 = xv g91 w5 k9 from by rw [(xv_k (i := k9) hg116 (by omega) (by omega) (by omega))]).trans (v111 k9 q1 q2))) (by omega)
    exact P107 ((24 - 0 : Int).toNat + 1) g xM.rf 0 (by omega) (by omega) m0 (by omega) (by omega) em0 hp0 xFr.rf (xpl_0 (by omega)) (fun _ _ _ => rfl) (by omega)
  · exact hret _ _ _ _ _ _ kd30_0.2.2.2.2.2.2.2.2.2.1 ⟨rfl, rfl, ⟨m0, em0, by omega, by omega, hp0, (xpl_prune2 (bn := 0) rfl (by omega) hp1.1 hp3 hp4 hv2 (by omega)), (fun _ _ _ => rfl)⟩, xFr.rf⟩ (Nat.le_refl _) (Nat.le_refl _)

set_option maxHeartbeats 4000000 in
set_option maxRecDepth 100000 in
theorem c3_learn (l : Launch) (D : va_G) (kA : Nat → ClassId) (b0 : Nat) (t0 : Nat → Nat) (S : xT) (g : xG) (a0 : Nat) (x1 : Int) (a2 : Nat) (w1 : Nat) (w2 : Nat) (fb : Nat) (hs_a0 : S a0 = some (7, 0)) (hx1 : 1 ≤ x1 ∧ x1 ≤ 8) (hs_a2 : S a2 = some (10, 0)) (ew1 : g a0 1 = .ref w1) (hs_w1 : S w1 = some (12100, 64)) (ew2 : g a0 2 = .ref w2) (hs_w2 : S w2 = some (12200, 64)) (efb : g a2 0 = .ref fb) (hs_fb : S fb = some (13500, 420)) : xMt l yX6_learn cX6_learn 6 none 0 0 0 0 D kA b0 t0 [(7, 0), (12100, 0), (12200, 0)] [.ref a0, .int (iI x1), .ref a2] S g (fun (r : Option Value) (S1 : xT) (g1 : xG) => S = S1 ∧ r = none ∧ (g1 a0 0 = .int (iI x1)) ∧ (xLr x1 (xv g fb) (xv g1 w1) (xv g1 w2) x1 0) ∧ (xFr 12100 S g g1 w1) ∧ (xFr 12200 S g g1 w2) ∧ (xFr 7 S g g1 a0)) := by
  refine xEnterV (by decide) (by simp [lg_sl, Value.category]) [(0, .ref a0), (1, .int (iI x1)), (2, .ref a2)] rfl ?_
  intro K E hK hret _ _ _
  refine X_aloadn hK (i := 0) 0 kd26_21.2.2.2.2.2.2.2.2.2.2.2 rfl rfl ?_
  refine X_iloadn hK (i := 1) 1 kd26_22.1 rfl rfl ?_
  refine X_puti hK fl_X6_9_7 hs_a0 (by decide) sl_7_0 (by omega) (by omega) kd26_22.2.1 (fun g1 hg1 => ?_)
  refine X_iconst hK kd26_22.2.2.1 ?_
  refine X_istoren hK (i := 3) [(3, .int (iI 0)), (0, .ref a0), (1, .int (iI x1)), (2, .ref a2)] kd26_22.2.2.2.1 rfl (by decide) rfl ?_
  have P396 : ∀ (nP396 : Nat) (g330 : xG) (_ : xM [(12200, 0), (12100, 0)] S g1 g330) (z329 : Int) (_ : 0 ≤ z329) (_ : z329 ≤ 8) (_ : xLr x1 (xv g fb) (xv g330 w1) (xv g330 w2) z329 0) (_ : xFr 12100 S g g330 w1) (_ : xFr 12200 S g g330 w2) (_ : g330 a0 0 = .int (iI x1)) (_ : 24 - z329 < (nP396 : Int)), X K E 7 [(3, .int (iI z329)), (0, .ref a0), (1, .int (iI x1)), (2, .ref a2)] [] S g330 0 0 := by
    intro nP396
    induction nP396 with
    | zero => intro g330 hg330 z329 lz329 uz329 v397 v398 v399 v400 mP396; exact False.elim (by omega)
    | succ nP396 ihP396 =>
      intro g330 hg330 z329 lz329 uz329 v397 v398 v399 v400 mP396
      refine X_iloadn hK (i := 3) 0 kd26_22.2.2.2.2.1 rfl rfl ?_
      refine X_aloadn hK (i := 0) 1 kd26_22.2.2.2.2.2.1 rfl rfl ?_
      refine X_getK hK fl_X6_9_7 hs_a0 ((hg330 a0 7 0 0 hs_a0 (by decide)).trans (xs_s hg1)) kd26_22.2.2.2.2.2.2.1 ?_
      refine X_icmp_ge hK 98 (by omega) (by omega) kd26_22.2.2.2.2.2.2.2.1 (by decide) (fun c401 => ?_) (fun c401 => ?_)
      · exact hret _ _ _ _ _ _ kd26_26.2.2.2.2.2.2.2.1 ⟨rfl, rfl, ((hg330 a0 7 0 0 hs_a0 (by decide)).trans (xs_s hg1)), (fun b9 c9 q1 q2 q3 q4 _ => v397 b9 c9 q1 q2 q3 q4 (Or.inl (by omega))), v398, v399, (xFr.m (xFr.w xFr.rf hg1) hg330 (by decide))⟩ (Nat.le_refl _) (Nat.le_refl _)
      · refine X_iconst hK kd26_22.2.2.2.2.2.2.2.2.1 ?_
        refine X_istore hK (i := 4) [(4, .int (iI 0)), (3, .int (iI z329)), (0, .ref a0), (1, .int (iI x1)), (2, .ref a2)] kd26_22.2.2.2.2.2.2.2.2.2.1 (by decide) rfl ?_
        have P455 : ∀ (nP455 : Nat) (g447 : xG) (_ : xM [(12200, 0), (12100, 0)] S g330 g447) (z446 : Int) (_ : 0 ≤ z446) (_ : z446 ≤ 8) (_ : xLr x1 (xv g fb) (xv g447 w1) (xv g447 w2) z329 z446) (_ : xFr 12100 S g g447 w1) (_ : xFr 12200 S g g447 w2) (_ : 24 - z446 < (nP455 : Int)), X K E 18 [(4, .int (iI z446)), (3, .int (iI z329)), (0, .ref a0), (1, .int (iI x1)), (2, .ref a2)] [] S g447 0 0 := by
          intro nP455
          induction nP455 with
          | zero => intro g447 hg447 z446 lz446 uz446 v456 v457 v458 mP455; exact False.elim (by omega)
          | succ nP455 ihP455 =>
            intro g447 hg447 z446 lz446 uz446 v456 v457 v458 mP455
            refine X_iload hK (i := 4) 0 kd26_22.2.2.2.2.2.2.2.2.2.2.1 rfl ?_
            refine X_aloadn hK (i := 0) 2 kd26_22.2.2.2.2.2.2.2.2.2.2.2 rfl rfl ?_
            refine X_getK hK fl_X6_9_7 hs_a0 ((hg447 a0 7 0 0 hs_a0 (by decide)).trans ((hg330 a0 7 0 0 hs_a0 (by decide)).trans (xs_s hg1))) kd26_23.1 ?_
            refine X_icmp_ge hK 92 (by omega) (by omega) kd26_23.2.1 (by decide) (fun c459 => ?_) (fun c459 => ?_)
            · refine X_iinc hK (i := 3) (z := z329) (n := 1) 1 [(3, .int (iI (z329 + 1))), (4, .int (iI z446)), (0, .ref a0), (1, .int (iI x1)), (2, .ref a2)] kd26_26.2.2.2.2.2.1 rfl (by decide) rfl ?_
              refine X_goto hK 7 kd26_26.2.2.2.2.2.2.1 (by decide) ?_
              refine X_lv [(3, .int (iI (z329 + 1))), (0, .ref a0), (1, .int (iI x1)), (2, .ref a2)] [0, 2, 3, 4] rfl ?_
              exact ihP396  g447 (xM.tr (xM.tr xM.rf xLe.rf hg330 (by decide)) xLe.rf hg447 (by decide)) (z329 + 1) (by omega) (by omega) (xLr.row v456 (by omega)) v457 v458 ((hg447 a0 7 0 0 hs_a0 (by decide)).trans ((hg330 a0 7 0 0 hs_a0 (by decide)).trans (xs_s hg1))) (by omega)
            · refine X_iloadn hK (i := 3) 1 kd26_23.2.2.1 rfl rfl ?_
              refine X_aloadn hK (i := 0) 2 kd26_23.2.2.2.1 rfl rfl ?_
              refine X_getK hK fl_X6_9_7 hs_a0 ((hg447 a0 7 0 0 hs_a0 (by decide)).trans ((hg330 a0 7 0 0 hs_a0 (by decide)).trans (xs_s hg1))) kd26_23.2.2.2.2.1 ?_
              refine X_imul hK kd26_23.2.2.2.2.2.1 ?_
              have hm460 := xmulB (a := z329) (b := x1) (A := 7) (B := 8) (by omega) (by omega) (by omega) (by omega)
              refine X_iload hK (i := 4) 0 kd26_23.2.2.2.2.2.2.1 rfl ?_
              refine X_iadd hK kd26_23.2.2.2.2.2.2.2.1 ?_
              refine X_istore hK (i := 5) [(5, .int (iI ((z329 * x1) + z446))), (4, .int (iI z446)), (3, .int (iI z329)), (0, .ref a0), (1, .int (iI x1)), (2, .ref a2)] kd26_23.2.2.2.2.2.2.2.2.1 (by decide) rfl ?_
              refine X_aloadn hK (i := 0) 3 kd26_23.2.2.2.2.2.2.2.2.2.1 rfl rfl ?_
              refine X_getK hK fl_X6_15_7 hs_a0 ((hg447 a0 7 0 1 hs_a0 (by decide)).trans ((hg330 a0 7 0 1 hs_a0 (by decide)).trans ((xs_k hg1 (by decide)).trans ew1))) kd26_23.2.2.2.2.2.2.2.2.2.2.1 ?_
              refine X_iloadn hK (i := 3) 2 kd26_23.2.2.2.2.2.2.2.2.2.2.2 rfl rfl ?_
              refine X_bipush hK kd26_24.1 (by decide) ?_
              refine X_imul hK kd26_24.2.1 ?_
              refine X_iload hK (i := 4) 1 kd26_24.2.2.1 rfl ?_
              refine X_iadd hK kd26_24.2.2.2.1 ?_
              refine X_aloadn hK (i := 2) 5 kd26_24.2.2.2.2.1 rfl rfl ?_
              refine X_getK hK fl_X6_45_10 hs_a2 ((hg447 a2 10 0 0 hs_a2 (by decide)).trans ((hg330 a2 10 0 0 hs_a2 (by decide)).trans ((xs_a hg1 (xne hs_a2 hs_a0 (by decide))).trans efb))) kd26_24.2.2.2.2.2.1 ?_
              refine X_iload hK (i := 5) 0 kd26_24.2.2.2.2.2.2.1 rfl ?_
              refine X_iald hK hs_fb (by decide) sl_13500 (by omega) (by omega) kd26_24.2.2.2.2.2.2.2.1 (fun z461 ez461 lz461 uz461 => ?_)
              have hl462 : xv g fb ((z329 * x1) + z446) = z461 := xv_e (j := ((z329 * x1) + z446)) ((((hg447 _ _ _ _ hs_fb (by rw [xky_a (by decide)]; decide)).trans (hg330 _ _ _ _ hs_fb (by rw [xky_a (by decide)]; decide))).trans (xs_a hg1 (xne hs_fb hs_a0 (by decide)))).symm.trans ez461) (by omega)
              refine X_iast hK hs_w1 (by decide) (by decide) sl_12100 (by omega) (by omega) (by omega) (by omega) kd26_24.2.2.2.2.2.2.2.2.1 (fun g463 hg463 => ?_)
              refine X_aloadn hK (i := 0) 3 kd26_24.2.2.2.2.2.2.2.2.2.1 rfl rfl ?_
              refine X_getK hK fl_X6_19_7 hs_a0 ((xs_a hg463 (xne hs_a0 hs_w1 (by decide))).trans ((hg447 a0 7 0 2 hs_a0 (by decide)).trans ((hg330 a0 7 0 2 hs_a0 (by decide)).trans ((xs_k hg1 (by decide)).trans ew2)))) kd26_24.2.2.2.2.2.2.2.2.2.2.1 ?_
              refine X_iloadn hK (i := 3) 2 kd26_24.2.2.2.2.2.2.2.2.2.2.2 rfl rfl ?_
              refine X_bipush hK kd26_25.1 (by decide) ?_
              refine X_imul hK kd26_25.2.1 ?_
              refine X_iload hK (i := 4) 1 kd26_25.2.2.1 rfl ?_
              refine X_iadd hK kd26_25.2.2.2.1 ?_
              refine X_aloadn hK (i := 2) 5 kd26_25.2.2.2.2.1 rfl rfl ?_
              refine X_getK hK fl_X6_45_10 hs_a2 ((xs_a hg463 (xne hs_a2 hs_w1 (by decide))).trans ((hg447 a2 10 0 0 hs_a2 (by decide)).trans ((hg330 a2 10 0 0 hs_a2 (by decide)).trans ((xs_a hg1 (xne hs_a2 hs_a0 (by decide))).trans efb)))) kd26_25.2.2.2.2.2.1 ?_
              refine X_aloadn hK (i := 0) 3 kd26_25.2.2.2.2.2.2.1 rfl rfl ?_
              refine X_getK hK fl_X6_9_7 hs_a0 ((xs_a hg463 (xne hs_a0 hs_w1 (by decide))).trans ((hg447 a0 7 0 0 hs_a0 (by decide)).trans ((hg330 a0 7 0 0 hs_a0 (by decide)).trans (xs_s hg1)))) kd26_25.2.2.2.2.2.2.2.1 ?_
              refine X_aloadn hK (i := 0) 3 kd26_25.2.2.2.2.2.2.2.2.1 rfl rfl ?_
              refine X_getK hK fl_X6_9_7 hs_a0 ((xs_a hg463 (xne hs_a0 hs_w1 (by decide))).trans ((hg447 a0 7 0 0 hs_a0 (by decide)).trans ((hg330 a0 7 0 0 hs_a0 (by decide)).trans (xs_s hg1)))) kd26_25.2.2.2.2.2.2.2.2.2.1 ?_
              refine X_imul hK kd26_25.2.2.2.2.2.2.2.2.2.2.1 ?_
              have hm464 := xmulB (a := x1) (b := x1) (A := 8) (B := 8) (by omega) (by omega) (by omega) (by omega)
              refine X_iload hK (i := 5) 0 kd26_25.2.2.2.2.2.2.2.2.2.2.2 rfl ?_
              refine X_iadd hK kd26_26.1 ?_
              refine X_iald hK hs_fb (by decide) sl_13500 (by omega) (by omega) kd26_26.2.1 (fun z465 ez465 lz465 uz465 => ?_)
              have hl466 : xv g fb ((x1 * x1) + ((z329 * x1) + z446)) = z465 := xv_e (j := ((x1 * x1) + ((z329 * x1) + z446))) (((((xs_a hg463 (xne hs_fb hs_w1 (by decide))).trans (hg447 _ _ _ _ hs_fb (by rw [xky_a (by decide)]; decide))).trans (hg330 _ _ _ _ hs_fb (by rw [xky_a (by decide)]; decide))).trans (xs_a hg1 (xne hs_fb hs_a0 (by decide)))).symm.trans ez465) (by omega)
              refine X_iast hK hs_w2 (by decide) (by decide) sl_12200 (by omega) (by omega) (by omega) (by omega) kd26_26.2.2.1 (fun g467 hg467 => ?_)
              refine X_iinc hK (i := 4) (z := z446) (n := 1) 1 [(4, .int (iI (z446 + 1))), (5, .int (iI ((z329 * x1) + z446))), (3, .int (iI z329)), (0, .ref a0), (1, .int (iI x1)), (2, .ref a2)] kd26_26.2.2.2.1 rfl (by decide) rfl ?_
              refine X_goto hK 18 kd26_26.2.2.2.2.1 (by decide) ?_
              refine X_lv [(4, .int (iI (z446 + 1))), (3, .int (iI z329)), (0, .ref a0), (1, .int (iI x1)), (2, .ref a2)] [0, 2, 3, 4, 5] rfl ?_
              exact ihP455  g467 (xM_ua (xM_ua (xM.tr xM.rf xLe.rf hg447 (by decide)) hg463 hs_w1 (by decide) (by decide)) hg467 hs_w2 (by decide) (by decide)) (z446 + 1) (by omega) (by omega) (xLr.s (j := ((z329 * 8) + z446)) v456 (by omega) (by omega) (by omega) (by omega) hl462 hl466 (show xv g467 w1 ((z329 * 8) + z446) = z461 from by rw [(xv_a hg467 (xne hs_w1 hs_w2 (by decide))), xv_s hg463 (by omega)]) (fun i9 hi9 h09 => (show xv g467 w1 i9 = xv g447 w1 i9 from by rw [(xv_a hg467 (xne hs_w1 hs_w2 (by decide))), (xv_k (i := i9) hg463 (by omega) (by omega) (by omega))])) (show xv g467 w2 ((z329 * 8) + z446) = z465 from by rw [xv_s hg467 (by omega)]) (fun i9 hi9 h09 => (show xv g467 w2 i9 = xv g447 w2 i9 from by rw [(xv_k (i := i9) hg467 (by omega) (by omega) (by omega)), (xv_a hg463 (xne hs_w2 hs_w1 (by decide)))]))) (xFr.t (xFr.w v457 hg463) hg467 hs_w2 (by decide)) (xFr.w (xFr.t v458 hg463 hs_w1 (by decide)) hg467) (by omega)
        exact P455 ((24 - 0 : Int).toNat + 1) g330 xM.rf 0 (by omega) (by omega) v397 v398 v399 (by omega)
  exact P396 ((24 - 0 : Int).toNat + 1) g1 xM.rf 0 (by omega) (by omega) xLr.z (xFr.t xFr.rf hg1 hs_a0 (by decide)) (xFr.t xFr.rf hg1 hs_a0 (by decide)) (xs_s hg1) (by omega)

set_option maxHeartbeats 4000000 in
set_option maxRecDepth 100000 in
theorem c3_partBest (l : Launch) (D : va_G) (kA : Nat → ClassId) (b0 : Nat) (t0 : Nat → Nat) (S : xT) (g : xG) (a0 : Nat) (x1 : Int) (n0 : Int) (w3 : Nat) (w1 : Nat) (w2 : Nat) (w5 : Nat) (w6 : Nat) (w8 : Nat) (hs_a0 : S a0 = some (7, 0)) (hx1 : (-2147483648) ≤ x1 ∧ x1 ≤ 2147483647) (hn0 : 1 ≤ n0 ∧ n0 ≤ 8) (en0 : g a0 0 = .int (iI n0)) (ew3 : g a0 3 = .ref w3) (hs_w3 : S w3 = some (12300, 8)) (ew1 : g a0 1 = .ref w1) (hs_w1 : S w1 = some (12100, 64)) (ew2 : g a0 2 = .ref w2) (hs_w2 : S w2 = some (12200, 64)) (ew5 : g a0 5 = .ref w5) (hs_w5 : S w5 = some (12500, 8)) (ew6 : g a0 6 = .ref w6) (hs_w6 : S w6 = some (12600, 256)) (ew8 : g a0 8 = .ref w8) (hs_w8 : S w8 = some (12802, 64)) : xMt l yX6_partBest cX6_partBest 2 (some .int) 9 0 0 243 D kA b0 t0 [(12802, 0), (12600, 0), (7, 9), (12500, 0), (12300, 0)] [.ref a0, .int (iI x1)] S g (fun (r : Option Value) (S1 : xT) (g1 : xG) => S = S1 ∧ ∃ z : Int, r = some (.int (iI z)) ∧ (-2147483648) ≤ z ∧ z ≤ 2147483647 ∧ (xBst n0 (xv g w1) (xv g w2) x1 z (xv g1 w3)) ∧ (z = -1 ∨ xCo n0 (xv g1 w3)) ∧ (xFr 12300 S g g1 w3)) := by
  refine xEnterI (by decide) (by simp [lg_sl, Value.category]) [(0, .ref a0), (1, .int (iI x1))] rfl ?_
  intro K E hK hret _ _ _
  refine X_aloadn hK (i := 0) 0 kd39_69.2.2.2.2.2.2.2.2.1 rfl rfl ?_
  refine X_wt (fun hW0 => ?_)
  have hG0 : ∀ j : Int, 0 ≤ j → j < 64 → 0 ≤ xv g w1 j := fun j q1 q2 => (xv_r hW0 hs_w1 (by decide) sl_12100 (by decide) j q1 (by omega)).1
  refine X_iloadn hK (i := 1) 1 kd39_69.2.2.2.2.2.2.2.2.2.1 rfl rfl ?_
  refine X_callV hK [.int (iI x1)] [] lk_X6_73 (c3_findClashes _ _ _ _ _ S g a0 x1 n0 w1 w2 w8 hs_a0 (by omega) (by omega) en0 ew1 hs_w1 ew2 hs_w2 ew8 hs_w8) hs_a0 ⟨by decide, rfl⟩ kd39_69.2.2.2.2.2.2.2.2.2.2.1 rfl rfl (by simp [Value.category]) (by decide) (by decide) (by decide) (by decide) (fun r1 S3 g2 pr1 qr1 hg2 => ?_)
  obtain ⟨rfl, rfl, k4⟩ := pr1
  refine X_st [] rfl ?_
  refine X_aloadn hK (i := 0) 0 kd39_69.2.2.2.2.2.2.2.2.2.2.2 rfl rfl ?_
  refine X_callV hK [] [] lk_X6_77 (c3_findRest _ _ _ _ _ S g2 a0 n0 w1 w6 hs_a0 (by omega) ((hg2 a0 7 0 0 hs_a0 (by decide)).trans en0) ((hg2 a0 7 0 1 hs_a0 (by decide)).trans ew1) hs_w1 ((hg2 a0 7 0 6 hs_a0 (by decide)).trans ew6) hs_w6) hs_a0 ⟨by decide, rfl⟩ kd39_70.1 rfl rfl (by simp [Value.category]) (by decide) (by decide) (by decide) (by decide) (fun r5 S7 g6 pr5 qr5 hg6 => ?_)
  obtain ⟨rfl, rfl, k8⟩ := pr5
  refine X_st [] rfl ?_
  refine X_aloadn hK (i := 0) 0 kd39_70.2.1 rfl rfl ?_
  refine X_iconst hK kd39_70.2.2.1 ?_
  refine X_puti hK fl_X6_42_7 hs_a0 (by decide) sl_7_9 (by omega) (by omega) kd39_70.2.2.2.1 (fun g9 hg9 => ?_)
  refine X_aloadn hK (i := 0) 0 kd39_70.2.2.2.2.1 rfl rfl ?_
  refine X_iconst hK kd39_70.2.2.2.2.2.1 ?_
  refine X_iconst hK kd39_70.2.2.2.2.2.2.1 ?_
  refine X_iconst hK kd39_70.2.2.2.2.2.2.2.1 ?_
  refine X_lconstE hK (a := 0) (by decide +kernel) kd39_70.2.2.2.2.2.2.2.2.1 ?_
  refine X_callV hK [.int (iI 0), .int (iI 0), .int (iI 0), .long (iL 0)] [] lk_X6_80 (c3_place_0 _ _ _ _ _ S g9 a0 0 0 0 (iL 0) n0 w3 (-1) w1 w2 w5 w6 w8 x1 hs_a0 (by omega) (by omega) (by omega) (by omega) ((xs_k hg9 (by decide)).trans ((hg6 a0 7 0 0 hs_a0 (by decide)).trans ((hg2 a0 7 0 0 hs_a0 (by decide)).trans en0))) ((xs_k hg9 (by decide)).trans ((hg6 a0 7 0 3 hs_a0 (by decide)).trans ((hg2 a0 7 0 3 hs_a0 (by decide)).trans ew3))) hs_w3 (by omega) (xs_s hg9) ((xs_k hg9 (by decide)).trans ((hg6 a0 7 0 1 hs_a0 (by decide)).trans ((hg2 a0 7 0 1 hs_a0 (by decide)).trans ew1))) hs_w1 ((xs_k hg9 (by decide)).trans ((hg6 a0 7 0 2 hs_a0 (by decide)).trans ((hg2 a0 7 0 2 hs_a0 (by decide)).trans ew2))) hs_w2 ((xs_k hg9 (by decide)).trans ((hg6 a0 7 0 5 hs_a0 (by decide)).trans ((hg2 a0 7 0 5 hs_a0 (by decide)).trans ew5))) hs_w5 ((xs_k hg9 (by decide)).trans ((hg6 a0 7 0 6 hs_a0 (by decide)).trans ((hg2 a0 7 0 6 hs_a0 (by decide)).trans ew6))) hs_w6 ((xs_k hg9 (by decide)).trans ((hg6 a0 7 0 8 hs_a0 (by decide)).trans ((hg2 a0 7 0 8 hs_a0 (by decide)).trans ew8))) hs_w8 (Or.inl rfl) (by rw [(Eq.trans (xv_a hg9 (xne hs_w1 hs_a0 (by decide))) (xv_m hg6 hs_w1 (by decide) (by decide))), (xv_a hg9 (xne hs_w6 hs_a0 (by decide)))]; exact k8) (by rw [(Eq.trans (Eq.trans (xv_a hg9 (xne hs_w1 hs_a0 (by decide))) (xv_m hg6 hs_w1 (by decide) (by decide))) (xv_m hg2 hs_w1 (by decide) (by decide))), (Eq.trans (Eq.trans (xv_a hg9 (xne hs_w2 hs_a0 (by decide))) (xv_m hg6 hs_w2 (by decide) (by decide))) (xv_m hg2 hs_w2 (by decide) (by decide))), (Eq.trans (xvl_a hg9 (xne hs_w8 hs_a0 (by decide))) (xvl_m hg6 hs_w8 (by decide) (by decide)))]; exact k4) rfl rfl xPt.z xBr.z) hs_a0 ⟨by decide, rfl⟩ kd39_70.2.2.2.2.2.2.2.2.2.1 rfl rfl (by simp [Value.category]) (by decide) (by decide) (by decide) (by decide) (fun r10 S12 g11 pr10 qr10 hg11 => ?_)
  obtain ⟨rfl, rfl, k13, k14⟩ := pr10
  refine X_st [] rfl ?_
  obtain ⟨z15, ez15, lz15, uz15, kz15, dz15, tz15⟩ := k13
  refine X_aloadn hK (i := 0) 0 kd39_70.2.2.2.2.2.2.2.2.2.2.1 rfl rfl ?_
  refine X_getK hK fl_X6_42_7 hs_a0 ez15 kd39_70.2.2.2.2.2.2.2.2.2.2.2 ?_
  exact hret _ _ _ _ _ _ _ kd39_71 ⟨rfl, z15, rfl, (by omega), (by omega), (by rw [← (Eq.trans (Eq.trans (xv_a hg9 (xne hs_w1 hs_a0 (by decide))) (xv_m hg6 hs_w1 (by decide) (by decide))) (xv_m hg2 hs_w1 (by decide) (by decide))), ← (Eq.trans (Eq.trans (xv_a hg9 (xne hs_w2 hs_a0 (by decide))) (xv_m hg6 hs_w2 (by decide) (by decide))) (xv_m hg2 hs_w2 (by decide) (by decide)))]; exact xpl_b (by omega) (by rw [(Eq.trans (Eq.trans (xv_a hg9 (xne hs_w1 hs_a0 (by decide))) (xv_m hg6 hs_w1 (by decide) (by decide))) (xv_m hg2 hs_w1 (by decide) (by decide)))]; exact hG0) dz15), kz15, (xFr.tr (xFr.t (xFr.m (xFr.m xFr.rf hg2 (by decide)) hg6 (by decide)) hg9 hs_a0 (by decide)) k14)⟩ (Nat.le_refl _) (Nat.le_refl _)

set_option maxHeartbeats 4000000 in
set_option maxRecDepth 100000 in
theorem c3_hasPeace (l : Launch) (D : va_G) (kA : Nat → ClassId) (b0 : Nat) (t0 : Nat → Nat) (S : xT) (g : xG) (a0 : Nat) (x1 : Int) (n0 : Int) (w3 : Nat) (w1 : Nat) (w2 : Nat) (hs_a0 : S a0 = some (7, 0)) (hx1 : 1 ≤ x1 ∧ x1 ≤ 255) (hn0 : 0 ≤ n0 ∧ n0 ≤ 8) (en0 : g a0 0 = .int (iI n0)) (ew3 : g a0 3 = .ref w3) (hs_w3 : S w3 = some (12300, 8)) (ew1 : g a0 1 = .ref w1) (hs_w1 : S w1 = some (12100, 64)) (ew2 : g a0 2 = .ref w2) (hs_w2 : S w2 = some (12200, 64)) (hp0 : xCo n0 (xv g w3)) : xMt l yX6_hasPeace cX6_hasPeace 4 (some .boolean) 1 0 0 25 D kA b0 t0 [] [.ref a0, .int (iI x1)] S g (fun (r : Option Value) (S1 : xT) (g1 : xG) => S = S1 ∧ g = g1 ∧ ∃ z : Int, r = some (.int (iI z)) ∧ 0 ≤ z ∧ z ≤ 1 ∧ ((z = 1 ↔ xPq n0 (xv g w1) (xv g w2) x1 (xv g w3) n0))) := by
  refine xEnterZ (by decide) (by simp [lg_sl, Value.category]) [(0, .ref a0), (1, .int (iI x1))] rfl ?_
  intro K E hK hret _ _ _
  refine X_iconst hK kd44_0.1 ?_
  refine X_istoren hK (i := 2) [(2, .int (iI 0)), (0, .ref a0), (1, .int (iI x1))] kd44_0.2.1 rfl (by decide) rfl ?_
  have P445 : ∀ (nP445 : Nat) (z371 : Int) (_ : 0 ≤ z371) (_ : z371 ≤ 8) (_ : xPq n0 (xv g w1) (xv g w2) x1 (xv g w3) z371) (_ : z371 ≤ n0) (_ : 24 - z371 < (nP445 : Int)), X K E 2 [(2, .int (iI z371)), (0, .ref a0), (1, .int (iI x1))] [] S g 0 0 := by
    intro nP445
    induction nP445 with
    | zero => intro z371 lz371 uz371 v446 v447 mP445; exact False.elim (by omega)
    | succ nP445 ihP445 =>
      intro z371 lz371 uz371 v446 v447 mP445
      refine X_iloadn hK (i := 2) 0 kd44_0.2.2.1 rfl rfl ?_
      refine X_aloadn hK (i := 0) 1 kd44_0.2.2.2.1 rfl rfl ?_
      refine X_getK hK fl_X6_9_7 hs_a0 en0 kd44_0.2.2.2.2.1 ?_
      refine X_icmp_ge hK 56 (by omega) (by omega) kd44_0.2.2.2.2.2.1 (by decide) (fun c448 => ?_) (fun c448 => ?_)
      · refine X_iconst hK kd44_2.2.2.2.2.2.2.2.2.1 ?_
        exact hret _ _ _ _ _ _ _ kd44_2.2.2.2.2.2.2.2.2.2.1 (by omega) (by omega) ⟨rfl, rfl, 1, rfl, (by omega), (by omega), ⟨fun _ b9 x9 q1 q2 q3 q4 q5 => v446 b9 x9 q1 (by omega) q3 q4 q5, fun _ => rfl⟩⟩ (Nat.le_refl _) (Nat.le_refl _)
      · refine X_iconst hK kd44_0.2.2.2.2.2.2.1 ?_
        refine X_istoren hK (i := 3) [(3, .int (iI 0)), (2, .int (iI z371)), (0, .ref a0), (1, .int (iI x1))] kd44_0.2.2.2.2.2.2.2.1 rfl (by decide) rfl ?_
        have P509 : ∀ (nP509 : Nat) (z499 : Int) (_ : 0 ≤ z499) (_ : z499 ≤ 8) (_ : xPq2 (xv g w1) (xv g w2) x1 (xv g w3) z371 z499) (_ : z499 ≤ n0) (_ : 24 - z499 < (nP509 : Int)), X K E 12 [(3, .int (iI z499)), (2, .int (iI z371)), (0, .ref a0), (1, .int (iI x1))] [] S g 0 0 := by
          intro nP509
          induction nP509 with
          | zero => intro z499 lz499 uz499 v510 v511 mP509; exact False.elim (by omega)
          | succ nP509 ihP509 =>
            intro z499 lz499 uz499 v510 v511 mP509
            refine X_iloadn hK (i := 3) 0 kd44_0.2.2.2.2.2.2.2.2.1 rfl rfl ?_
            refine X_aloadn hK (i := 0) 2 kd44_0.2.2.2.2.2.2.2.2.2.1 rfl rfl ?_
            refine X_getK hK fl_X6_9_7 hs_a0 en0 kd44_0.2.2.2.2.2.2.2.2.2.2.1 ?_
            refine X_icmp_ge hK 50 (by omega) (by omega) kd44_0.2.2.2.2.2.2.2.2.2.2.2 (by decide) (fun c512 => ?_) (fun c512 => ?_)
            · refine X_iinc hK (i := 2) (z := z371) (n := 1) 1 [(2, .int (iI (z371 + 1))), (3, .int (iI z499)), (0, .ref a0), (1, .int (iI x1))] kd44_2.2.2.2.2.2.2.1 rfl (by decide) rfl ?_
              refine X_goto hK 2 kd44_2.2.2.2.2.2.2.2.1 (by decide) ?_
              refine X_lv [(2, .int (iI (z371 + 1))), (0, .ref a0), (1, .int (iI x1))] [0, 2, 3] rfl ?_
              exact ihP445  (z371 + 1) (by omega) (by omega) (xPq.s v446 v510 (by omega)) (by omega) (by omega)
            · refine X_aloadn hK (i := 0) 2 kd44_1.1 rfl rfl ?_
              refine X_iloadn hK (i := 2) 1 kd44_1.2.1 rfl rfl ?_
              refine X_aloadn hK (i := 0) 2 kd44_1.2.2.1 rfl rfl ?_
              refine X_getK hK fl_X6_22_7 hs_a0 ew3 kd44_1.2.2.2.1 ?_
              refine X_iloadn hK (i := 2) 1 kd44_1.2.2.2.2.1 rfl rfl ?_
              refine X_iald hK hs_w3 (by decide) sl_12300 (by omega) (by omega) kd44_1.2.2.2.2.2.1 (fun z513 ez513 lz513 uz513 => ?_)
              have hr514 : xv g w3 z371 = z513 := xv_e (j := z371) ez513 (by omega)
              have hhr514 : 0 ≤ z513 := by have h9 := hp0 z371 (by omega) (by omega); rw [hr514] at h9; exact h9
              refine X_iloadn hK (i := 3) 0 kd44_1.2.2.2.2.2.2.1 rfl rfl ?_
              refine X_aloadn hK (i := 0) 2 kd44_1.2.2.2.2.2.2.2.1 rfl rfl ?_
              refine X_getK hK fl_X6_22_7 hs_a0 ew3 kd44_1.2.2.2.2.2.2.2.2.1 ?_
              refine X_iloadn hK (i := 3) 0 kd44_1.2.2.2.2.2.2.2.2.2.1 rfl rfl ?_
              refine X_iald hK hs_w3 (by decide) sl_12300 (by omega) (by omega) kd44_1.2.2.2.2.2.2.2.2.2.2.1 (fun z515 ez515 lz515 uz515 => ?_)
              have hr516 : xv g w3 z499 = z515 := xv_e (j := z499) ez515 (by omega)
              have hhr516 : 0 ≤ z515 := by have h9 := hp0 z499 (by omega) (by omega); rw [hr516] at h9; exact h9
              refine X_iloadn hK (i := 1) 3 kd44_1.2.2.2.2.2.2.2.2.2.2.2 rfl rfl ?_
              refine X_callV hK [.int (iI z371), .int (iI z513), .int (iI z499), .int (iI z515), .int (iI x1)] [] lk_X6_50 (c3_wouldFight _ _ _ _ _ S g a0 z371 z513 z499 z515 x1 w1 w2 hs_a0 (by omega) (by omega) (by omega) (by omega) (by omega) ew1 hs_w1 ew2 hs_w2) hs_a0 ⟨by decide, rfl⟩ kd44_2.1 rfl rfl (by simp [Value.category]) (by decide) (by decide) (by decide) (by decide) (fun r517 S519 g518 pr517 qr517 hg518 => ?_)
              obtain ⟨rfl, rfl, z520, rfl, lz520, uz520, k521⟩ := pr517
              refine X_st [.int (iI z520)] rfl ?_
              refine X_if_eq hK 44 (by omega) kd44_2.2.1 (by decide) (fun c522 => ?_) (fun c522 => ?_)
              · refine X_iinc hK (i := 3) (z := z499) (n := 1) 0 [(3, .int (iI (z499 + 1))), (2, .int (iI z371)), (0, .ref a0), (1, .int (iI x1))] kd44_2.2.2.2.2.1 rfl (by decide) rfl ?_
                refine X_goto hK 12 kd44_2.2.2.2.2.2.1 (by decide) ?_
                exact ihP509  (z499 + 1) (by omega) (by omega) (xPq2.s v510 (Or.inr (fun q9 => by rw [hr514, hr516] at q9; have h8 := k521.mpr q9; omega))) (by omega) (by omega)
              · refine X_iconst hK kd44_2.2.2.1 ?_
                exact hret _ _ _ _ _ _ _ kd44_2.2.2.2.1 (by omega) (by omega) ⟨rfl, rfl, 0, rfl, (by omega), (by omega), ⟨fun h9 => by omega, fun h9 => by have h8 := k521.mp (by omega); have h7 : z371 ≠ z499 := (fun e9 => by (unfold xFt at h8; have e1 := hr514; have e2 := hr516; rw [e9] at e1; have e3 := e1.symm.trans e2; rw [e3] at h8; omega)); have h6 := h9 z371 z499 (by omega) (by omega) (by omega) (by omega) h7; rw [hr514, hr516] at h6; exact absurd h8 h6⟩⟩ (Nat.le_refl _) (Nat.le_refl _)
        exact P509 ((24 - 0 : Int).toNat + 1) 0 (by omega) (by omega) xPq2.z (by omega) (by omega)
  exact P445 ((24 - 0 : Int).toNat + 1) 0 (by omega) (by omega) xPq.z (by omega) (by omega)
