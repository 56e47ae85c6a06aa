theorem iI_nat {z : Int} (h : 0 ≤ z) (h2 : z ≤ 2147483647) : (iI z).toBitVec.toNat = z.toNat := by
  have h3 : (iI z).toBitVec.toInt = z := iI_toInt (by omega) h2
  rw [BitVec.toInt_eq_toNat_cond] at h3
  have := (iI z).toBitVec.isLt
  split at h3 <;> omega
theorem iI_natR {z : Int} {n : Nat} (hz : -2147483648 ≤ z ∧ z ≤ 2147483647) (h : (iI z).toBitVec.toNat = n) (hn : n < 2147483648) : z = n := by
  have h3 : (iI z).toBitVec.toInt = z := iI_toInt hz.1 hz.2
  rw [BitVec.toInt_eq_toNat_cond, h] at h3
  split at h3 <;> omega
theorem xiorB {a b z : Int} (k : Nat) (e : iI a ||| iI b = iI z) (hz : -2147483648 ≤ z ∧ z ≤ 2147483647) (ha : 0 ≤ a ∧ a.toNat < 2 ^ k) (hb : 0 ≤ b ∧ b.toNat < 2 ^ k) (hk : k ≤ 31) : 0 ≤ z ∧ z.toNat < 2 ^ k := by
  have h31 : (2 : Nat) ^ k ≤ 2 ^ 31 := Nat.pow_le_pow_right (by decide) hk
  have e1 : (iI z).toBitVec = (iI a).toBitVec ||| (iI b).toBitVec := by rw [← e]; rfl
  have e2 : (iI z).toBitVec.toNat = a.toNat ||| b.toNat := by rw [e1, BitVec.toNat_or, iI_nat ha.1 (by omega), iI_nat hb.1 (by omega)]
  have lt := Nat.or_lt_two_pow ha.2 hb.2
  have := iI_natR hz e2 (by omega)
  omega
theorem xixorB {a b z : Int} (k : Nat) (e : iI a ^^^ iI b = iI z) (hz : -2147483648 ≤ z ∧ z ≤ 2147483647) (ha : 0 ≤ a ∧ a.toNat < 2 ^ k) (hb : 0 ≤ b ∧ b.toNat < 2 ^ k) (hk : k ≤ 31) : 0 ≤ z ∧ z.toNat < 2 ^ k := by
  have h31 : (2 : Nat) ^ k ≤ 2 ^ 31 := Nat.pow_le_pow_right (by decide) hk
  have e1 : (iI z).toBitVec = (iI a).toBitVec ^^^ (iI b).toBitVec := by rw [← e]; rfl
  have e2 : (iI z).toBitVec.toNat = a.toNat ^^^ b.toNat := by rw [e1, BitVec.toNat_xor, iI_nat ha.1 (by omega), iI_nat hb.1 (by omega)]
  have lt := Nat.xor_lt_two_pow ha.2 hb.2
  have := iI_natR hz e2 (by omega)
  omega
theorem shl1_all : ∀ k : Fin 31, iI 1 <<< (iI (k.val : Int) &&& 31) = iI ((2 ^ k.val : Nat) : Int) := by decide +kernel
theorem xshl1 {b z : Int} (e : iI 1 <<< (iI b &&& 31) = iI z) (hz : -2147483648 ≤ z ∧ z ≤ 2147483647) (hb : 0 ≤ b ∧ b ≤ 30) : z = ((2 ^ b.toNat : Nat) : Int) := by
  have h := shl1_all ⟨b.toNat, by omega⟩
  have hb2 : ((b.toNat : Nat) : Int) = b := by omega
  simp only [] at h
  rw [hb2, e] at h
  have hp : (2 : Nat) ^ b.toNat ≤ 2 ^ 30 := Nat.pow_le_pow_right (by decide) (by omega)
  generalize (2 : Nat) ^ b.toNat = p at hp h ⊢
  exact (iI_eq hz (by omega)).mp h
theorem xshlB {b z : Int} (h : Nat) (e : iI 1 <<< (iI b &&& 31) = iI z) (hz : -2147483648 ≤ z ∧ z ≤ 2147483647) (hb : 0 ≤ b ∧ b ≤ h) (hh : h ≤ 30) : 1 ≤ z ∧ z.toNat ≤ 2 ^ h := by
  have h1 := xshl1 e hz (by omega)
  have hp : (2 : Nat) ^ b.toNat ≤ 2 ^ h := Nat.pow_le_pow_right (by decide) (by omega)
  have hq : 0 < (2 : Nat) ^ b.toNat := Nat.pow_pos (by decide)
  generalize (2 : Nat) ^ b.toNat = p at hp hq h1
  generalize (2 : Nat) ^ h = r at hp ⊢
  omega
