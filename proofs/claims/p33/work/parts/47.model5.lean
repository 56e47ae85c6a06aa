
def xdsN (f : Int → Int) : Nat → Nat
  | 0 => 0
  | m + 1 => xdsN f m + (8 - f m).toNat * 11 ^ (9 - m)
theorem xdsN_cg {f f' : Int → Int} {m : Nat} (h : ∀ x : Nat, x < m → f' x = f x) : xdsN f' m = xdsN f m := by
  induction m with
  | zero => rfl
  | succ m ih => unfold xdsN; rw [ih (fun x hx => h x (by omega)), h m (by omega)]
def xdm (f : Int → Int) (k : Int) : Nat := xdsN f (k + 1).toNat + (k + 1).toNat
theorem xdm_pop {f : Int → Int} {k : Int} (hk : 0 ≤ k) : xdm f (k + (-1)) < xdm f k := by
  unfold xdm
  rw [show (k + (-1) + 1).toNat = k.toNat by omega, show (k + 1).toNat = k.toNat + 1 by omega]
  show _ < xdsN f k.toNat + _ + _
  generalize (8 - f k.toNat).toNat * 11 ^ (9 - k.toNat) = z
  omega
theorem xdm_mul {a b p : Nat} (h : a + 1 ≤ b) : a * p + p ≤ b * p := by
  have := Nat.mul_le_mul_right p h
  rw [Nat.succ_mul] at this
  exact this
theorem xdm_adv {f f' : Int → Int} {k i : Int} (hk : 0 ≤ k ∧ k ≤ 8) (h0 : f k < i) (hi : i ≤ 8) (e : f' k = i) (hs : ∀ x, 0 ≤ x → x < k → f' x = f x) : xdm f' k < xdm f k := by
  unfold xdm
  rw [show (k + 1).toNat = k.toNat + 1 by omega]
  have ek : ((k.toNat : Nat) : Int) = k := by omega
  have c := xdsN_cg (f := f) (f' := f') (m := k.toNat) (fun x hx => hs x (by omega) (by omega))
  have m := xdm_mul (a := (8 - i).toNat) (b := (8 - f k).toNat) (p := 11 ^ (9 - k.toNat)) (by omega)
  have hp : 0 < 11 ^ (9 - k.toNat) := Nat.pow_pos (by decide)
  show xdsN f' k.toNat + (8 - f' k.toNat).toNat * 11 ^ (9 - k.toNat) + _ < xdsN f k.toNat + (8 - f k.toNat).toNat * 11 ^ (9 - k.toNat) + _
  rw [c, ek, e]
  omega
theorem xdm_push {f f' : Int → Int} {k i : Int} (hk : 0 ≤ k ∧ k ≤ 7) (h0 : f k < i) (hi : i ≤ 8) (e : f' k = i) (e1 : f' (k + 1) = -1) (hs : ∀ x, 0 ≤ x → x < k → f' x = f x) : xdm f' (k + 1) < xdm f k := by
  unfold xdm
  rw [show (k + 1 + 1).toNat = k.toNat + 1 + 1 by omega, show (k + 1).toNat = k.toNat + 1 by omega]
  have ek : ((k.toNat : Nat) : Int) = k := by omega
  have ek1 : ((k.toNat + 1 : Nat) : Int) = k + 1 := by omega
  have c := xdsN_cg (f := f) (f' := f') (m := k.toNat) (fun x hx => hs x (by omega) (by omega))
  have m := xdm_mul (a := (8 - i).toNat) (b := (8 - f k).toNat) (p := 11 ^ (9 - k.toNat)) (by omega)
  have hp : 0 < 11 ^ (9 - (k.toNat + 1)) := Nat.pow_pos (by decide)
  have hq : 11 ^ (9 - k.toNat) = 11 ^ (9 - (k.toNat + 1)) * 11 := by
    rw [← Nat.pow_succ]
    congr 1
    omega
  show xdsN f' k.toNat + (8 - f' k.toNat).toNat * 11 ^ (9 - k.toNat) + (8 - f' ((k.toNat + 1 : Nat) : Int)).toNat * 11 ^ (9 - (k.toNat + 1)) + _ < xdsN f k.toNat + (8 - f k.toNat).toNat * 11 ^ (9 - k.toNat) + _
  rw [c, ek, ek1, e, e1]
  have h9 : (8 - (-1 : Int)).toNat = 9 := by decide
  rw [h9]
  omega
