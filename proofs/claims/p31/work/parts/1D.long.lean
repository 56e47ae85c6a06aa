def iL (z : Int) : Int64 := Int64.ofInt z
section XLG
variable {K : xCx} {E : xEn} {own : String} {cc : ByteArray} {Lw : List (Nat × Nat)} {nL rf rc rs rl : Nat} {pc : Nat} {lv : List (Nat × Value)} {st : List Value} {S : xT} {g : xG} {cells slots : Nat}
theorem X_lconstE (hK : xK K E own cc Lw nL rf rc rs rl) {n : Fin 2} {a : Int} (ha : Int64.ofNat (n : Nat) = iL a) (hd : decode cc pc = .ok (.lconst n, 1)) (k : X K E (pc + 1) lv (.long (iL a) :: st) S g cells slots) : X K E pc lv st S g cells slots :=
  fun H locs ls h1 h2 h3 h4 h5 h6 => lv_lconst hK.1 hK.2.1 hd ha (k H locs ls h1 h2 h3 h4 h5 h6)
theorem X_lcmpE (hK : xK K E own cc Lw nL rf rc rs rl) {x y : Int64} (hd : decode cc pc = .ok (.lcmp, 1)) (k : ∀ z : Int, -1 ≤ z → z ≤ 1 → (z = 0 ↔ x = y) → (0 < z ↔ y < x) → X K E (pc + 1) lv (.int (iI z) :: st) S g cells slots) : X K E pc lv (.long y :: .long x :: st) S g cells slots := by
  intro H locs ls h1 h2 h3 h4 h5 h6
  refine W.lcmp hK.1 hK.2.1 hd ?_
  by_cases q1 : x > y
  · have e : lg_cmp x y = iI 1 := if_pos q1
    rw [e]
    exact k 1 (by decide) (by decide) ⟨fun h => by omega, fun h => by subst h; exact (Int64.lt_irrefl q1).elim⟩ ⟨fun _ => q1, fun _ => by decide⟩ H locs ls h1 h2 h3 h4 h5 h6
  · by_cases q2 : x = y
    · have e : lg_cmp x y = iI 0 := (if_neg q1).trans (if_pos q2)
      rw [e]
      exact k 0 (by decide) (by decide) ⟨fun _ => q2, fun _ => rfl⟩ ⟨fun h => by omega, fun h => absurd h q1⟩ H locs ls h1 h2 h3 h4 h5 h6
    · have e : lg_cmp x y = iI (-1) := (if_neg q1).trans (if_neg q2)
      rw [e]
      exact k (-1) (by decide) (by decide) ⟨fun h => by omega, fun h => absurd h q2⟩ ⟨fun h => by omega, fun h => absurd h q1⟩ H locs ls h1 h2 h3 h4 h5 h6
end XLG
def xsum (t : Int → Int) : Nat → Int
  | 0 => 0
  | k + 1 => xsum t k + t (k : Int)
theorem xsum_cg {t t' : Int → Int} {n : Nat} (h : ∀ i : Int, 0 ≤ i → i < n → t i = t' i) : xsum t n = xsum t' n := by
  induction n with
  | zero => rfl
  | succ k ih => show xsum t k + t k = xsum t' k + t' k; rw [ih (fun i q1 q2 => h i q1 (by omega)), h k (by omega) (by omega)]
theorem xsum_s {t : Int → Int} {n : Int} (hn : 0 ≤ n) : xsum t (n + 1).toNat = xsum t n.toNat + t n := by
  rw [show (n + 1).toNat = n.toNat + 1 by omega]
  show xsum t n.toNat + t ((n.toNat : Nat) : Int) = _
  rw [show ((n.toNat : Nat) : Int) = n by omega]