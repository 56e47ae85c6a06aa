section XLB
variable {K : xCx} {E : xEn} {own : String} {cc : ByteArray} {Lw : List (Nat × Nat)} {nL rf rc rs rl : Nat} {pc : Nat} {lv : List (Nat × Value)} {st : List Value} {S : xT} {g : xG} {cells slots : Nat}
theorem X_lorE (hK : xK K E own cc Lw nL rf rc rs rl) {x y : Int64} (hd : decode cc pc = .ok (.lor, 1)) (k : X K E (pc + 1) lv (.long (x ||| y) :: st) S g cells slots) : X K E pc lv (.long y :: .long x :: st) S g cells slots :=
  fun H locs ls h1 h2 h3 h4 h5 h6 => lv_lor hK.1 hK.2.1 hd (k H locs ls h1 h2 h3 h4 h5 h6)
theorem X_landE (hK : xK K E own cc Lw nL rf rc rs rl) {x y : Int64} (hd : decode cc pc = .ok (.land, 1)) (k : X K E (pc + 1) lv (.long (x &&& y) :: st) S g cells slots) : X K E pc lv (.long y :: .long x :: st) S g cells slots :=
  fun H locs ls h1 h2 h3 h4 h5 h6 => lv_land hK.1 hK.2.1 hd (k H locs ls h1 h2 h3 h4 h5 h6)
theorem X_lshlE (hK : xK K E own cc Lw nL rf rc rs rl) {x : Int64} {y : Int32} (hd : decode cc pc = .ok (.lshl, 1)) (k : X K E (pc + 1) lv (.long (x <<< (y.toInt64 &&& 63)) :: st) S g cells slots) : X K E pc lv (.int y :: .long x :: st) S g cells slots :=
  fun H locs ls h1 h2 h3 h4 h5 h6 => lv_lshl hK.1 hK.2.1 hd rfl (k H locs ls h1 h2 h3 h4 h5 h6)
theorem X_lushrE (hK : xK K E own cc Lw nL rf rc rs rl) {x : Int64} {y : Int32} (hd : decode cc pc = .ok (.lushr, 1)) (k : X K E (pc + 1) lv (.long (x.toUInt64 >>> (y.toInt64.toUInt64 &&& Int64.toUInt64 63)).toInt64 :: st) S g cells slots) : X K E pc lv (.int y :: .long x :: st) S g cells slots :=
  fun H locs ls h1 h2 h3 h4 h5 h6 => lv_lushr hK.1 hK.2.1 hd rfl (k H locs ls h1 h2 h3 h4 h5 h6)
theorem X_laldE (hK : xK K E own cc Lw nL rf rc rs rl) {a t n : Nat} {j q r : Int} (hs : S a = some (t, n)) (ht : 10000 ≤ t ∧ t % 100 = 2 ∧ n ≤ 2147483647) (hc : ∀ k, xsl t k = (3, q, r)) (q1 : 0 ≤ j) (q2 : j < n) (hd : decode cc pc = .ok (.laload, 1)) (kk : ∀ y : Int64, g a j.toNat = .long y → X K E (pc + 1) lv (.long y :: st) S g cells slots) : X K E pc lv (.int (iI j) :: .ref a :: st) S g cells slots := by
  refine X_laldv hK hs ht q1 q2 hd (fun h => ?_)
  rw [hc] at h
  obtain ⟨y, e⟩ := h
  rw [e]
  exact kk y e
end XLB
def xbt (y : Int64) (i : Nat) : Bool := y.toBitVec.getLsbD i
theorem xbt_or (x y : Int64) (i : Nat) : xbt (x ||| y) i = (xbt x i || xbt y i) := by
  unfold xbt
  rw [Int64.toBitVec_or, BitVec.getLsbD_or]
theorem xbt_0 (i : Nat) : xbt (iL 0) i = false := by
  unfold xbt
  rw [show (iL 0).toBitVec = 0#64 by decide +kernel]
  exact BitVec.getLsbD_zero
set_option maxRecDepth 100000 in
theorem xbt_shl : ∀ a i : Fin 64, xbt (iL 1 <<< ((iI ((a.val : Nat) : Int)).toInt64 &&& 63)) i.val = decide (i.val = a.val) := by decide +kernel
set_option maxRecDepth 100000 in
theorem xbt_c : ∀ a : Fin 64, (UInt64.mod ((iI ((a.val : Nat) : Int)).toInt64.toUInt64 &&& Int64.toUInt64 63) 64).toBitVec.toNat = a.val := by decide +kernel
theorem xbv1 (x : BitVec 64) : x &&& 1#64 = 0#64 ↔ x.getLsbD 0 = false := by
  constructor
  · intro h
    have h0 := congrArg (fun z : BitVec 64 => z.getLsbD 0) h
    have h1 : (x &&& 1#64).getLsbD 0 = (0#64).getLsbD 0 := h0
    rw [BitVec.getLsbD_and, BitVec.getLsbD_one, BitVec.getLsbD_zero] at h1
    cases hx : x.getLsbD 0 with
    | false => rfl
    | true => rw [hx] at h1; exact absurd h1 (by decide)
  · intro h
    apply BitVec.eq_of_getLsbD_eq
    intro i _
    rw [BitVec.getLsbD_and, BitVec.getLsbD_one, BitVec.getLsbD_zero]
    by_cases e : i = 0
    · rw [e, h]; rfl
    · rw [decide_eq_false e, Bool.and_false, Bool.and_false]
theorem xbt_shr (y : Int64) (a : Fin 64) : ((y.toUInt64 >>> ((iI ((a.val : Nat) : Int)).toInt64.toUInt64 &&& Int64.toUInt64 63)).toInt64 &&& iL 1 = iL 0) ↔ xbt y a.val = false := by
  have e1 : ((y.toUInt64 >>> ((iI ((a.val : Nat) : Int)).toInt64.toUInt64 &&& Int64.toUInt64 63)).toInt64).toBitVec = y.toBitVec >>> a.val := by
    show y.toBitVec >>> (UInt64.mod ((iI ((a.val : Nat) : Int)).toInt64.toUInt64 &&& Int64.toUInt64 63) 64).toBitVec = _
    rw [BitVec.ushiftRight_eq', xbt_c]
  rw [← Int64.toBitVec_inj, Int64.toBitVec_and, e1, show (iL 1).toBitVec = 1#64 by decide +kernel, show (iL 0).toBitVec = 0#64 by decide +kernel, xbv1, BitVec.getLsbD_ushiftRight, Nat.add_zero]
  exact Iff.rfl
def xvl (g : xG) (a : Nat) (j : Int) : Int64 := match g a j.toNat with
  | .long y => y
  | _ => 0
theorem xvl_e {g : xG} {a : Nat} {j : Int} {y : Int64} (h : g a j.toNat = .long y) : xvl g a j = y := by
  unfold xvl
  rw [h]
theorem xvl_of {g g1 : xG} {a : Nat} {j : Int} (h : g1 a j.toNat = g a j.toNat) : xvl g1 a j = xvl g a j := by
  unfold xvl
  rw [h]
theorem xvl_s {g g1 : xG} {a : Nat} {j : Int} {y : Int64} (hg : g1 = xup g a j.toNat (.long y)) : xvl g1 a j = y := xvl_e (xs_s hg)
theorem xvl_k {g g1 : xG} {a : Nat} {i j : Int} {v : Value} (hg : g1 = xup g a j.toNat v) (hi : 0 ≤ i) (hj : 0 ≤ j) (h : i ≠ j) : xvl g1 a i = xvl g a i := xvl_of (xs_k hg (by omega))
theorem xvl_a {g g1 : xG} {a b k : Nat} {v : Value} (hg : g1 = xup g a k v) (h : b ≠ a) : xvl g1 b = xvl g b := funext fun i => xvl_of (xs_a hg h)
theorem xvl_m {L : List (Nat × Nat)} {S : xT} {g g1 : xG} {a t n : Nat} (hm : xM L S g g1) (hs : S a = some (t, n)) (ht : 10000 ≤ t) (hL : (t, 0) ∉ L) : xvl g1 a = xvl g a := funext fun i => xvl_of (hm a t n _ hs (by unfold xky; rw [if_neg (by omega)]; exact hL))
