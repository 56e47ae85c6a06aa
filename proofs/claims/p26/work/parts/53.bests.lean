
theorem xgn_of {n pr cr bk a s c b p : Int} (hs : s = min n a) (hc : c = (n * pr + 99) / 100) (hb : b = (n - s) * bk / 100) (hp : p = b * pr / 100) : cr * s - c + p = xgn n pr cr bk a := by
  unfold xgn
  rw [← hs, ← hc, ← hb, ← hp]
def xFF (ka kb : Int → Int) (k pr cr bk : Int) : Int → Int64 := fun n => iL (xsum (fun i => xgn n pr cr bk (ka i) * kb i) k.toNat)
theorem xgain_s {ka kb : Int → Int} {n pr cr bk k a s c b p v : Int} {y : Int64} (hI : y = iL (xsum (fun i => xgn n pr cr bk (ka i) * kb i) k.toNat)) (hk : 0 ≤ k) (ha : ka k = a) (hv : kb k = v) (hs : s = min n a) (hc : c = (n * pr + 99) / 100) (hb : b = (n - s) * bk / 100) (hp : p = b * pr / 100) : y + iL (cr * s - c + p) * iL v = iL (xsum (fun i => xgn n pr cr bk (ka i) * kb i) (k + 1).toNat) := by
  rw [hI, iL_mul, iL_add, xsum_s hk, xgn_of hs hc hb hp]
  show _ = iL (_ + xgn n pr cr bk (ka k) * kb k)
  rw [ha, hv]
theorem xch_hit {F : Int → Int64} {n : Int} {e y : Int64} (hn : 1 ≤ n) (he : e = (xch F (n - 1).toNat).2) (hy : y = F n) (h : e < y) : xch F (n + 1 - 1).toNat = (n, y) := by
  rw [show n + 1 - 1 = (n - 1) + 1 by omega, xch_s (by omega), show n - 1 + 1 = n by omega, ← he, ← hy, if_pos h]
theorem xch_miss {F : Int → Int64} {n : Int} {e y : Int64} (hn : 1 ≤ n) (he : e = (xch F (n - 1).toNat).2) (hy : y = F n) (h : ¬ e < y) : xch F (n + 1 - 1).toNat = xch F (n - 1).toNat := by
  rw [show n + 1 - 1 = (n - 1) + 1 by omega, xch_s (by omega), show n - 1 + 1 = n by omega, ← he, ← hy, if_neg h]
def xrw (g : xG) (wg : Nat) (c p : Int) : Int := match g wg c.toNat with
  | .ref r => xv g r p
  | _ => 0
theorem xrw_of {g : xG} {wg wr : Nat} {c p : Int} (h : g wg c.toNat = .ref wr) : xrw g wg c p = xv g wr p := by
  unfold xrw
  rw [h]
theorem xrw_wn {S : xT} {g : xG} {wg mw : Nat} {c p : Int} (h : xWn S g wg mw) (h1 : 0 ≤ c) (h2 : c ≤ 9) (h3 : 0 ≤ p) (h4 : p ≤ 3) : xrw g wg c p = xv g mw (4 * c + p) := by
  obtain ⟨r, e1, e2, e3, e4⟩ := h c h1 (by omega)
  rw [xrw_of e1]
  exact e3 p h3 (by omega)
theorem xlinj {a b : Int64} {v : Value} (h1 : v = .long a) (h2 : v = .long b) : a = b := by
  have := h1.symm.trans h2
  injection this
def xA (W : Int) (wt ld : Int → Int) : Int → Int := fun j => xas W (wt (j / 6)) (ld (j % 6))
def xT6 (f : Int → Int) : Int → Int := fun j => f (j / 6) * f (4 + j % 6)
theorem xA_j {W w h : Int} {wt ld : Int → Int} (hh : 0 ≤ h ∧ h < 6) : xA W wt ld (6 * w + h) = xas W (wt w) (ld h) := by
  unfold xA
  rw [show (6 * w + h) / 6 = w by omega, show (6 * w + h) % 6 = h by omega]
theorem xT_j {w h : Int} {f : Int → Int} (hh : 0 ≤ h ∧ h < 6) : xT6 f (6 * w + h) = f w * f (4 + h) := by
  unfold xT6
  rw [show (6 * w + h) / 6 = w by omega, show (6 * w + h) % 6 = h by omega]
def xLn (ka kb : Int → Int) (k : Int) (A T : Int → Int) (j : Int) : Prop := ∀ φ : Int → Int, xsum (fun i => φ (ka i) * kb i) k.toNat = xsum (fun i => φ (A i) * T i) j.toNat
theorem xLn.z {ka kb A T : Int → Int} : xLn ka kb 0 A T 0 := fun _ => rfl
theorem xLn.at {ka kb A T : Int → Int} {k j j' : Int} (h : xLn ka kb k A T j) (e : j' = j) : xLn ka kb k A T j' := e ▸ h
theorem xLn.add {ka kb ka' kb' A T : Int → Int} {k j : Int} (h : xLn ka kb k A T j) (hk : 0 ≤ k) (hj : 0 ≤ j) (ha : ka' k = A j) (hb : kb' k = T j) (h1 : ∀ i, 0 ≤ i → i < k → ka' i = ka i) (h2 : ∀ i, 0 ≤ i → i < k → kb' i = kb i) : xLn ka' kb' (k + 1) A T (j + 1) := fun φ => by
  rw [xsum_s hk, xsum_s hj, ← h φ]
  show _ + φ (ka' k) * kb' k = _ + φ (A j) * T j
  rw [ha, hb]
  congr 1
  exact xsum_cg (fun i q1 q2 => by rw [h1 i q1 (by omega), h2 i q1 (by omega)])
theorem xLn.skip {ka kb A T : Int → Int} {k j : Int} (h : xLn ka kb k A T j) (hj : 0 ≤ j) (hT : T j = 0) : xLn ka kb k A T (j + 1) := fun φ => by
  rw [xsum_s hj, ← h φ]
  show _ = _ + φ (A j) * T j
  rw [hT, Int.mul_zero, Int.add_zero]
def xG2 (A T : Int → Int) (pr cr bk : Int) : Int → Int64 := fun n => iL (xsum (fun j => xgn n pr cr bk (A j) * T j) 24)
theorem xLn.ff {ka kb A T : Int → Int} {k pr cr bk : Int} (h : xLn ka kb k A T 24) : xFF ka kb k pr cr bk = xG2 A T pr cr bk := funext fun n => congrArg iL (h (fun a => xgn n pr cr bk a))
def xBv (c p pr cr bk n : Int) (f : Int → Int) : Prop := (0 ≤ c ∧ c ≤ 9 ∧ 0 ≤ p ∧ p ≤ 3 ∧ 0 ≤ pr ∧ pr ≤ 1000 ∧ 0 ≤ cr ∧ cr ≤ 1000 ∧ 0 ≤ bk ∧ bk ≤ 100 ∧ n = 10) ∧ ∀ i, 0 ≤ i → i < n → f i ≤ 20
def xNa (f : Int → Int) (n m : Int) : Prop := ∀ i, 0 ≤ i → i < n → f i ≤ m
theorem xNa.z {f : Int → Int} {m : Int} : xNa f 0 m := fun i q1 q2 => by omega
theorem xNa.s {f : Int → Int} {n m z : Int} (h : xNa f n m) (e : f n = z) (hz : z ≤ m) : xNa f (n + 1) m := fun i q1 q2 => by
  by_cases q : i = n
  · rw [q, e]; exact hz
  · exact h i q1 (by omega)
def xBe (W : Int) (wt ld f : Int → Int) (c p pr cr bk n r : Int) (e0 e1 : Value) : Prop := (xBv c p pr cr bk n f ∧ r = (xch (xG2 (xA W wt ld) (xT6 f) pr cr bk) 400).1 ∧ e1 = .long (xch (xG2 (xA W wt ld) (xT6 f) pr cr bk) 400).2) ∨ (¬ xBv c p pr cr bk n f ∧ r = -1 ∧ e1 = e0)
theorem xBe.lg {W : Int} {y : Int64} {wt ld f : Int → Int} {c p pr cr bk n r : Int} {e1 : Value} (h : xBe W wt ld f c p pr cr bk n r (.long y) e1) : ∃ y' : Int64, e1 = .long y' := by
  rcases h with ⟨-, -, h⟩ | ⟨-, -, h⟩
  · exact ⟨_, h⟩
  · exact ⟨_, h⟩
theorem xBe.det {W W' : Int} {wt ld f wt' ld' f' : Int → Int} {c p pr cr bk n r r' : Int} {e0 e1 e1' : Value} (hW : 0 ≤ c → c ≤ 9 → 0 ≤ p → p ≤ 3 → W = W') (h4 : xTc wt wt' 4) (h6 : xTc ld ld' 6) (hf : xTc f f' n) (h1 : xBe W wt ld f c p pr cr bk n r e0 e1) (h2 : xBe W' wt' ld' f' c p pr cr bk n r' e0 e1') : r = r' ∧ e1 = e1' := by
  have hv : xBv c p pr cr bk n f ↔ xBv c p pr cr bk n f' := ⟨fun h => ⟨h.1, fun i q1 q2 => by rw [← hf i q1 q2]; exact h.2 i q1 q2⟩, fun h => ⟨h.1, fun i q1 q2 => by rw [hf i q1 q2]; exact h.2 i q1 q2⟩⟩
  rcases h1 with ⟨v, a1, a2⟩ | ⟨v, a1, a2⟩
  · rcases h2 with ⟨v', b1, b2⟩ | ⟨v', b1, b2⟩
    · obtain ⟨⟨q1, q2, q3, q4, -, -, -, -, -, -, q5⟩, -⟩ := v
      have e : xG2 (xA W wt ld) (xT6 f) pr cr bk = xG2 (xA W' wt' ld') (xT6 f') pr cr bk := funext fun m => congrArg iL (xsum_cg (fun i w1 w2 => by
        show xgn m pr cr bk (xA W wt ld i) * xT6 f i = xgn m pr cr bk (xA W' wt' ld' i) * xT6 f' i
        unfold xA xT6
        rw [hW q1 q2 q3 q4, h4 (i / 6) (by omega) (by omega), h6 (i % 6) (by omega) (by omega), hf (i / 6) (by omega) (by omega), hf (4 + i % 6) (by omega) (by omega)]))
      rw [a1, a2, b1, b2, e]
      exact ⟨rfl, rfl⟩
    · exact absurd (hv.mp v) v'
  · rcases h2 with ⟨v', b1, b2⟩ | ⟨v', b1, b2⟩
    · exact absurd (hv.mpr v') v
    · rw [a1, a2, b1, b2]; exact ⟨rfl, rfl⟩
theorem xsum_at {t : Int → Int} {y : Int64} {j j' : Int} (h : y = iL (xsum t j.toNat)) (e : j' = j) : y = iL (xsum t j'.toNat) := e ▸ h
theorem xsum_24 {t : Int → Int} {y : Int64} {j : Int} (h : y = iL (xsum t j.toNat)) (e : j = 24) : y = iL (xsum t 24) := by rw [h, e]; rfl
theorem xbest_s {A T : Int → Int} {n pr cr bk j a t1 t2 s c b p : Int} {y y' : Int64} (hI : y = iL (xsum (fun j => xgn n pr cr bk (A j) * T j) j.toNat)) (hj : 0 ≤ j) (_ : 0 ≤ j) (ha : A j = a) (ht : T j = t1 * t2) (hs : s = min n a) (hc : c = (n * pr + 99) / 100) (hb : b = (n - s) * bk / 100) (hp : p = b * pr / 100) (hy : y' = y + (iL cr * iL s - iL c + iL p) * iL t1 * iL t2) : y' = iL (xsum (fun j => xgn n pr cr bk (A j) * T j) (j + 1).toNat) := by
  rw [hy, hI, iL_mul cr s, iL_sub, iL_add (cr * s - c) p, iL_mul, iL_mul, iL_add, xsum_s hj]
  show _ = iL (_ + xgn n pr cr bk (A j) * T j)
  rw [ha, ht, xgn_of hs hc hb hp, Int.mul_assoc]
theorem xbest_0 {F : Int → Int64} {n : Int} {y : Int64} (hn : n = 0) (hy : y = F n) : n = (xch F (n + 1 - 1).toNat).1 ∧ y = (xch F (n + 1 - 1).toNat).2 := by
  subst hn
  exact ⟨rfl, hy⟩
theorem xbest_h {F : Int → Int64} {n b : Int} {m y : Int64} (hn : 1 ≤ n) (h : (n = 0 ∧ b = 0) ∨ (1 ≤ n ∧ b = (xch F (n - 1).toNat).1 ∧ m = (xch F (n - 1).toNat).2)) (hy : y = F n) (q : m < y) : n = (xch F (n + 1 - 1).toNat).1 ∧ y = (xch F (n + 1 - 1).toNat).2 := by
  rcases h with ⟨h, -⟩ | ⟨-, -, h2⟩
  · omega
  · rw [xch_hit hn h2 hy q]; exact ⟨rfl, rfl⟩
theorem xbest_m {F : Int → Int64} {n b : Int} {m y : Int64} (hn : 1 ≤ n) (h : (n = 0 ∧ b = 0) ∨ (1 ≤ n ∧ b = (xch F (n - 1).toNat).1 ∧ m = (xch F (n - 1).toNat).2)) (hy : y = F n) (q : ¬ m < y) : b = (xch F (n + 1 - 1).toNat).1 ∧ m = (xch F (n + 1 - 1).toNat).2 := by
  rcases h with ⟨h, -⟩ | ⟨-, h1, h2⟩
  · omega
  · rw [xch_miss hn h2 hy q]; exact ⟨h1, h2⟩
theorem xbest_f1 {F : Int → Int64} {n b : Int} {m : Int64} (h : (n = 0 ∧ b = 0) ∨ (1 ≤ n ∧ b = (xch F (n - 1).toNat).1 ∧ m = (xch F (n - 1).toNat).2)) (hn : n = 401) : b = (xch F 400).1 := by
  rcases h with ⟨h, -⟩ | ⟨-, h1, -⟩
  · omega
  · rw [h1, hn]; rfl
theorem xbest_f2 {F : Int → Int64} {n b : Int} {m : Int64} (h : (n = 0 ∧ b = 0) ∨ (1 ≤ n ∧ b = (xch F (n - 1).toNat).1 ∧ m = (xch F (n - 1).toNat).2)) (hn : n = 401) : m = (xch F 400).2 := by
  rcases h with ⟨h, -⟩ | ⟨-, -, h2⟩
  · omega
  · rw [h2, hn]; rfl
set_option maxHeartbeats 4000000 in
set_option maxRecDepth 100000 in
theorem c5_costOf (l : Launch) (D : va_G) (kA : Nat → ClassId) (b0 : Nat) (t0 : Nat → Nat) (S : xT) (g : xG) (x0 : Int) (x1 : Int) (hx0 : 0 ≤ x0 ∧ x0 ≤ 1000) (hx1 : 0 ≤ x1 ∧ x1 ≤ 1000) : xMt l yX11_costOf cX11_costOf 2 (some .int) 0 0 0 0 D kA b0 t0 [] [.int (iI x0), .int (iI x1)] S g (fun (r : Option Value) (S1 : xT) (g1 : xG) => S = S1 ∧ g = g1 ∧ ∃ z : Int, r = some (.int (iI z)) ∧ 0 ≤ z ∧ z ≤ 10000 ∧ (z = (x0 * x1 + 99) / 100)) := by
  refine xEnterI (by decide) (by simp [lg_sl, Value.category]) [(0, .int (iI x0)), (1, .int (iI x1))] rfl ?_
  intro K E hK hret _ _ _
  refine X_iloadn hK (i := 0) 0 kd20_3.2.2.2.2.2.2.1 rfl rfl ?_
  refine X_iloadn hK (i := 1) 1 kd20_3.2.2.2.2.2.2.2.1 rfl rfl ?_
  refine X_imul hK kd20_3.2.2.2.2.2.2.2.2.1 ?_
  have hm1 := xmulB (a := x0) (b := x1) (A := 1000) (B := 1000) (by omega) (by omega) (by omega) (by omega)
  refine X_bipush hK kd20_3.2.2.2.2.2.2.2.2.2.1 (by decide) ?_
  refine X_iadd hK kd20_3.2.2.2.2.2.2.2.2.2.2.1 ?_
  refine X_iconst hK kd20_3.2.2.2.2.2.2.2.2.2.2.2 ?_
  refine X_isub hK kd20_4.1 ?_
  refine X_bipush hK kd20_4.2.1 (by decide) ?_
  refine X_idiv hK (by omega) (by omega) kd20_4.2.2.1 (fun z2 ez2 fz2 => ?_)
  have bz2 : 0 ≤ z2 ∧ z2 ≤ 10000 := by omega
  exact hret _ _ _ _ _ _ _ kd20_4.2.2.2.1 ⟨rfl, rfl, z2, rfl, (by omega), (by omega), (by omega)⟩ (Nat.le_refl _) (Nat.le_refl _)

set_option maxHeartbeats 4000000 in
set_option maxRecDepth 100000 in
theorem c5_backOf (l : Launch) (D : va_G) (kA : Nat → ClassId) (b0 : Nat) (t0 : Nat → Nat) (S : xT) (g : xG) (x0 : Int) (x1 : Int) (hx0 : 0 ≤ x0 ∧ x0 ≤ 1000) (hx1 : 0 ≤ x1 ∧ x1 ≤ 100) : xMt l yX11_backOf cX11_backOf 2 (some .int) 0 0 0 0 D kA b0 t0 [] [.int (iI x0), .int (iI x1)] S g (fun (r : Option Value) (S1 : xT) (g1 : xG) => S = S1 ∧ g = g1 ∧ ∃ z : Int, r = some (.int (iI z)) ∧ 0 ≤ z ∧ z ≤ 1000 ∧ (z = x0 * x1 / 100)) := by
  refine xEnterI (by decide) (by simp [lg_sl, Value.category]) [(0, .int (iI x0)), (1, .int (iI x1))] rfl ?_
  intro K E hK hret _ _ _
  refine X_iloadn hK (i := 0) 0 kd20_3.1 rfl rfl ?_
  refine X_iloadn hK (i := 1) 1 kd20_3.2.1 rfl rfl ?_
  refine X_imul hK kd20_3.2.2.1 ?_
  have hm1 := xmulB (a := x0) (b := x1) (A := 1000) (B := 100) (by omega) (by omega) (by omega) (by omega)
  refine X_bipush hK kd20_3.2.2.2.1 (by decide) ?_
  refine X_idiv hK (by omega) (by omega) kd20_3.2.2.2.2.1 (fun z2 ez2 fz2 => ?_)
  have bz2 : 0 ≤ z2 ∧ z2 ≤ 1000 := by omega
  exact hret _ _ _ _ _ _ _ kd20_3.2.2.2.2.2.1 ⟨rfl, rfl, z2, rfl, (by omega), (by omega), (by omega)⟩ (Nat.le_refl _) (Nat.le_refl _)

set_option maxHeartbeats 4000000 in
set_option maxRecDepth 100000 in
theorem c5_paidFor (l : Launch) (D : va_G) (kA : Nat → ClassId) (b0 : Nat) (t0 : Nat → Nat) (S : xT) (g : xG) (x0 : Int) (x1 : Int) (hx0 : 0 ≤ x0 ∧ x0 ≤ 1000) (hx1 : 0 ≤ x1 ∧ x1 ≤ 1000) : xMt l yX11_paidFor cX11_paidFor 2 (some .int) 0 0 0 0 D kA b0 t0 [] [.int (iI x0), .int (iI x1)] S g (fun (r : Option Value) (S1 : xT) (g1 : xG) => S = S1 ∧ g = g1 ∧ ∃ z : Int, r = some (.int (iI z)) ∧ 0 ≤ z ∧ z ≤ 10000 ∧ (z = x0 * x1 / 100)) := by
  refine xEnterI (by decide) (by simp [lg_sl, Value.category]) [(0, .int (iI x0)), (1, .int (iI x1))] rfl ?_
  intro K E hK hret _ _ _
  refine X_iloadn hK (i := 0) 0 kd20_8.2.1 rfl rfl ?_
  refine X_iloadn hK (i := 1) 1 kd20_8.2.2.1 rfl rfl ?_
  refine X_imul hK kd20_8.2.2.2.1 ?_
  have hm1 := xmulB (a := x0) (b := x1) (A := 1000) (B := 1000) (by omega) (by omega) (by omega) (by omega)
  refine X_bipush hK kd20_8.2.2.2.2.1 (by decide) ?_
  refine X_idiv hK (by omega) (by omega) kd20_8.2.2.2.2.2.1 (fun z2 ez2 fz2 => ?_)
  have bz2 : 0 ≤ z2 ∧ z2 ≤ 10000 := by omega
  exact hret _ _ _ _ _ _ _ kd20_8.2.2.2.2.2.2.1 ⟨rfl, rfl, z2, rfl, (by omega), (by omega), (by omega)⟩ (Nat.le_refl _) (Nat.le_refl _)

set_option maxHeartbeats 4000000 in
set_option maxRecDepth 100000 in
theorem c5_cost (l : Launch) (D : va_G) (kA : Nat → ClassId) (b0 : Nat) (t0 : Nat → Nat) (S : xT) (g : xG) (x0 : Int) (x1 : Int) (hx0 : 0 ≤ x0 ∧ x0 ≤ 1000) (hx1 : 0 ≤ x1 ∧ x1 ≤ 1000) : xMt l yX12_cost cX12_cost 2 (some .int) 0 0 0 0 D kA b0 t0 [] [.int (iI x0), .int (iI x1)] S g (fun (r : Option Value) (S1 : xT) (g1 : xG) => S = S1 ∧ g = g1 ∧ ∃ z : Int, r = some (.int (iI z)) ∧ 0 ≤ z ∧ z ≤ 10000 ∧ (z = (x0 * x1 + 99) / 100)) := by
  refine xEnterI (by decide) (by simp [lg_sl, Value.category]) [(0, .int (iI x0)), (1, .int (iI x1))] rfl ?_
  intro K E hK hret _ _ _
  refine X_iloadn hK (i := 0) 0 kd20_10.2.2.2.1 rfl rfl ?_
  refine X_iloadn hK (i := 1) 1 kd20_10.2.2.2.2.1 rfl rfl ?_
  refine X_imul hK kd20_10.2.2.2.2.2.1 ?_
  have hm1 := xmulB (a := x0) (b := x1) (A := 1000) (B := 1000) (by omega) (by omega) (by omega) (by omega)
  refine X_bipush hK kd20_10.2.2.2.2.2.2.1 (by decide) ?_
  refine X_iadd hK kd20_10.2.2.2.2.2.2.2.1 ?_
  refine X_bipush hK kd20_10.2.2.2.2.2.2.2.2.1 (by decide) ?_
  refine X_idiv hK (by omega) (by omega) kd20_10.2.2.2.2.2.2.2.2.2.1 (fun z2 ez2 fz2 => ?_)
  have bz2 : 0 ≤ z2 ∧ z2 ≤ 10000 := by omega
  exact hret _ _ _ _ _ _ _ kd20_10.2.2.2.2.2.2.2.2.2.2.1 ⟨rfl, rfl, z2, rfl, (by omega), (by omega), (by omega)⟩ (Nat.le_refl _) (Nat.le_refl _)

set_option maxHeartbeats 4000000 in
set_option maxRecDepth 100000 in
theorem c5_noneAbove (l : Launch) (D : va_G) (kA : Nat → ClassId) (b0 : Nat) (t0 : Nat → Nat) (S : xT) (g : xG) (a0 : Nat) (x1 : Int) (y0 : Nat) (n0 : Int) (hs_a0 : S a0 = some (10, 0)) (hx1 : (-2147483648) ≤ x1 ∧ x1 ≤ 2147483647) (ey0 : g a0 0 = .ref y0) (hs_y0 : S y0 = some (13500, 420)) (hn0 : 0 ≤ n0 ∧ n0 ≤ 420) (en0 : g a0 1 = .int (iI n0)) : xMt l yX9_noneAbove cX9_noneAbove 3 (some .boolean) 0 0 0 0 D kA b0 t0 [] [.ref a0, .int (iI x1)] S g (fun (r : Option Value) (S1 : xT) (g1 : xG) => S = S1 ∧ g = g1 ∧ ∃ z : Int, r = some (.int (iI z)) ∧ 0 ≤ z ∧ z ≤ 1 ∧ ((z = 1 ↔ xNa (xv g y0) n0 x1))) := by
  refine xEnterZ (by decide) (by simp [lg_sl, Value.category]) [(0, .ref a0), (1, .int (iI x1))] rfl ?_
  intro K E hK hret _ _ _
  refine X_iconst hK kd21_5.1 ?_
  refine X_istoren hK (i := 2) [(2, .int (iI 0)), (0, .ref a0), (1, .int (iI x1))] kd21_5.2.1 rfl (by decide) rfl ?_
  have P25 : ∀ (nP25 : Nat) (z21 : Int) (_ : 0 ≤ z21) (_ : z21 ≤ 420) (_ : xNa (xv g y0) z21 x1) (_ : 436 - z21 < (nP25 : Int)), X K E 2 [(2, .int (iI z21)), (0, .ref a0), (1, .int (iI x1))] [] S g 0 0 := by
    intro nP25
    induction nP25 with
    | zero => intro z21 lz21 uz21 v26 mP25; exact False.elim (by omega)
    | succ nP25 ihP25 =>
      intro z21 lz21 uz21 v26 mP25
      refine X_iloadn hK (i := 2) 0 kd21_5.2.2.1 rfl rfl ?_
      refine X_aloadn hK (i := 0) 1 kd21_5.2.2.2.1 rfl rfl ?_
      refine X_getK hK fl_X9_15_10 hs_a0 en0 kd21_5.2.2.2.2.1 ?_
      refine X_icmp_ge hK 28 (by omega) (by omega) kd21_5.2.2.2.2.2.1 (by decide) (fun c27 => ?_) (fun c27 => ?_)
      · refine X_iconst hK kd21_6.2.2.2.2.1 ?_
        exact hret _ _ _ _ _ _ _ kd21_6.2.2.2.2.2.1 (by omega) (by omega) ⟨rfl, rfl, 1, rfl, (by omega), (by omega), ⟨fun _ i9 q1 q2 => v26 i9 q1 (by omega), fun _ => rfl⟩⟩ (Nat.le_refl _) (Nat.le_refl _)
      · refine X_aloadn hK (i := 0) 1 kd21_5.2.2.2.2.2.2.1 rfl rfl ?_
        refine X_getK hK fl_X9_9_10 hs_a0 ey0 kd21_5.2.2.2.2.2.2.2.1 ?_
        refine X_iloadn hK (i := 2) 0 kd21_5.2.2.2.2.2.2.2.2.1 rfl rfl ?_
        refine X_iald hK hs_y0 (by decide) sl_13500 (by omega) (by omega) kd21_5.2.2.2.2.2.2.2.2.2.1 (fun z28 ez28 lz28 uz28 => ?_)
        have hvz28 := xv_e (j := z21) ez28 (by omega)
        refine X_iloadn hK (i := 1) 2 kd21_5.2.2.2.2.2.2.2.2.2.2.1 rfl rfl ?_
        refine X_icmp_le hK 22 (by omega) (by omega) kd21_5.2.2.2.2.2.2.2.2.2.2.2 (by decide) (fun c29 => ?_) (fun c29 => ?_)
        · refine X_iinc hK (i := 2) (z := z21) (n := 1) 0 [(2, .int (iI (z21 + 1))), (0, .ref a0), (1, .int (iI x1))] kd21_6.2.2.1 rfl (by decide) rfl ?_
          refine X_goto hK 2 kd21_6.2.2.2.1 (by decide) ?_
          exact ihP25  (z21 + 1) (by omega) (by omega) (xNa.s v26 (xv_e ez28 (by omega)) (by omega)) (by omega)
        · refine X_iconst hK kd21_6.1 ?_
          exact hret _ _ _ _ _ _ _ kd21_6.2.1 (by omega) (by omega) ⟨rfl, rfl, 0, rfl, (by omega), (by omega), ⟨fun h9 => by omega, fun h9 => by have h8 := h9 z21 (by omega) (by omega); omega⟩⟩ (Nat.le_refl _) (Nat.le_refl _)
  exact P25 ((436 - 0 : Int).toNat + 1) 0 (by omega) (by omega) xNa.z (by omega)

set_option maxHeartbeats 4000000 in
set_option maxRecDepth 100000 in
theorem c5_gainOf (l : Launch) (D : va_G) (kA : Nat → ClassId) (b0 : Nat) (t0 : Nat → Nat) (S : xT) (g : xG) (a0 : Nat) (x1 : Int) (x2 : Int) (x3 : Int) (x4 : Int) (ka : Nat) (kb : Nat) (kn : Int) (hs_a0 : S a0 = some (3, 0)) (hx1 : 0 ≤ x1 ∧ x1 ≤ 400) (hx2 : 0 ≤ x2 ∧ x2 ≤ 1000) (hx3 : 0 ≤ x3 ∧ x3 ≤ 1000) (hx4 : 0 ≤ x4 ∧ x4 ≤ 100) (eka : g a0 0 = .ref ka) (hs_ka : S ka = some (10500, 24)) (ekb : g a0 1 = .ref kb) (hs_kb : S kb = some (10600, 24)) (hkn : 0 ≤ kn ∧ kn ≤ 24) (ekn : g a0 2 = .int (iI kn)) : xMt l yX2_gainOf cX2_gainOf 11 (some .long) 1 0 0 21 D kA b0 t0 [] [.ref a0, .int (iI x1), .int (iI x2), .int (iI x3), .int (iI x4)] S g (fun (r : Option Value) (S1 : xT) (g1 : xG) => S = S1 ∧ g = g1 ∧ ∃ z : Int64, r = some (.long z) ∧ (z = xFF (xv g ka) (xv g kb) kn x2 x3 x4 x1)) := by
  refine xEnterL (by decide) (by simp [lg_sl, Value.category]) [(0, .ref a0), (1, .int (iI x1)), (2, .int (iI x2)), (3, .int (iI x3)), (4, .int (iI x4))] rfl ?_
  intro K E hK hret _ _ _
  refine X_lconstE hK (a := 0) (by decide +kernel) kd25_3.1 ?_
  refine X_lstore hK (i := 5) [(5, .long (iL 0)), (0, .ref a0), (1, .int (iI x1)), (2, .int (iI x2)), (3, .int (iI x3)), (4, .int (iI x4))] kd25_3.2.1 (by decide) rfl ?_
  refine X_iloadn hK (i := 1) 2 kd25_3.2.2.1 rfl rfl ?_
  refine X_iloadn hK (i := 2) 3 kd25_3.2.2.2.1 rfl rfl ?_
  refine X_callN hK [.int (iI x1), .int (iI x2)] [] lk_X2_41 (c5_costOf _ _ _ _ _ S g x1 x2 (by omega) (by omega)) kd25_3.2.2.2.2.1 rfl rfl (by simp [Value.category]) (by decide) (by decide) (by decide) (by decide) (fun r1 S3 g2 pr1 qr1 hg2 => ?_)
  obtain ⟨rfl, rfl, z4, rfl, lz4, uz4, k5⟩ := pr1
  refine X_st [.int (iI z4)] rfl ?_
  refine X_istore hK (i := 7) [(7, .int (iI z4)), (5, .long (iL 0)), (0, .ref a0), (1, .int (iI x1)), (2, .int (iI x2)), (3, .int (iI x3)), (4, .int (iI x4))] kd25_3.2.2.2.2.2.1 (by decide) rfl ?_
  refine X_iconst hK kd25_3.2.2.2.2.2.2.1 ?_
  refine X_istore hK (i := 8) [(8, .int (iI 0)), (7, .int (iI z4)), (5, .long (iL 0)), (0, .ref a0), (1, .int (iI x1)), (2, .int (iI x2)), (3, .int (iI x3)), (4, .int (iI x4))] kd25_3.2.2.2.2.2.2.2.1 (by decide) rfl ?_
  have P114 : ∀ (nP114 : Nat) (z96 : Int) (_ : 0 ≤ z96) (_ : z96 ≤ 24) (y97 : Int64) (_ : y97 = iL (xsum (fun i => xgn x1 x2 x3 x4 (xv g ka i) * xv g kb i) z96.toNat)) (_ : z96 ≤ kn) (_ : 40 - z96 < (nP114 : Int)), X K E 13 [(8, .int (iI z96)), (7, .int (iI z4)), (5, .long y97), (0, .ref a0), (1, .int (iI x1)), (2, .int (iI x2)), (3, .int (iI x3)), (4, .int (iI x4))] [] S g 0 0 := by
    intro nP114
    induction nP114 with
    | zero => intro z96 lz96 uz96 y97 v115 v116 mP114; exact False.elim (by omega)
    | succ nP114 ihP114 =>
      intro z96 lz96 uz96 y97 v115 v116 mP114
      refine X_iload hK (i := 8) 0 kd25_3.2.2.2.2.2.2.2.2.1 rfl ?_
      refine X_aloadn hK (i := 0) 3 kd25_3.2.2.2.2.2.2.2.2.2.1 rfl rfl ?_
      refine X_getK hK fl_X2_18_3 hs_a0 ekn kd25_3.2.2.2.2.2.2.2.2.2.2.1 ?_
      refine X_icmp_ge hK 81 (by omega) (by omega) kd25_3.2.2.2.2.2.2.2.2.2.2.2 (by decide) (fun c117 => ?_) (fun c117 => ?_)
      · refine X_lload hK (i := 5) 2 kd25_6.2.2.2.2.2.2.2.2.2.2.1 rfl ?_
        exact hret _ _ _ _ _ _ _ kd25_6.2.2.2.2.2.2.2.2.2.2.2 ⟨rfl, rfl, y97, rfl, (by rw [v115, show z96.toNat = kn.toNat by omega]; rfl)⟩ (Nat.le_refl _) (Nat.le_refl _)
      · refine X_iloadn hK (i := 1) 4 kd25_4.1 rfl rfl ?_
        refine X_aloadn hK (i := 0) 3 kd25_4.2.1 rfl rfl ?_
        refine X_getK hK fl_X2_9_3 hs_a0 eka kd25_4.2.2.1 ?_
        refine X_iload hK (i := 8) 0 kd25_4.2.2.2.1 rfl ?_
        refine X_iald hK hs_ka (by decide) sl_10500 (by omega) (by omega) kd25_4.2.2.2.2.1 (fun z118 ez118 lz118 uz118 => ?_)
        have hw119 : xv g ka z96 = z118 := xv_e (j := z96) ez118 (by omega)
        refine X_mmin hK mm_X2_45 ⟨by decide, by simp [Value.category]⟩ (by decide) (by omega) (by omega) kd25_4.2.2.2.2.2.1 (fun z120 ez120 fz120 => ?_)
        have bz120 : 0 ≤ z120 ∧ z120 ≤ 400 := by omega
        refine X_istore hK (i := 9) [(9, .int (iI z120)), (8, .int (iI z96)), (7, .int (iI z4)), (5, .long y97), (0, .ref a0), (1, .int (iI x1)), (2, .int (iI x2)), (3, .int (iI x3)), (4, .int (iI x4))] kd25_4.2.2.2.2.2.2.1 (by decide) rfl ?_
        refine X_iloadn hK (i := 3) 7 kd25_4.2.2.2.2.2.2.2.1 rfl rfl ?_
        refine X_iload hK (i := 9) 0 kd25_4.2.2.2.2.2.2.2.2.1 rfl ?_
        refine X_imul hK kd25_4.2.2.2.2.2.2.2.2.2.1 ?_
        have hm121 := xmulB (a := x3) (b := z120) (A := 1000) (B := 400) (by omega) (by omega) (by omega) (by omega)
        refine X_iload hK (i := 7) 2 kd25_4.2.2.2.2.2.2.2.2.2.2.1 rfl ?_
        refine X_isub hK kd25_4.2.2.2.2.2.2.2.2.2.2.2 ?_
        refine X_iloadn hK (i := 1) 5 kd25_5.1 rfl rfl ?_
        refine X_iload hK (i := 9) 0 kd25_5.2.1 rfl ?_
        refine X_isub hK kd25_5.2.2.1 ?_
        have hr122 : 0 ≤ (x1 - z120) ∧ (x1 - z120) ≤ 400 := by omega
        refine X_iload hK (i := 4) 8 kd25_5.2.2.2.1 rfl ?_
        refine X_callN hK [.int (iI (x1 - z120)), .int (iI x4)] [.int (iI ((x3 * z120) - z4))] lk_X2_50 (c5_backOf _ _ _ _ _ S g (x1 - z120) x4 (by omega) (by omega)) kd25_5.2.2.2.2.1 rfl rfl (by simp [Value.category]) (by decide) (by decide) (by decide) (by decide) (fun r123 S125 g124 pr123 qr123 hg124 => ?_)
        obtain ⟨rfl, rfl, z126, rfl, lz126, uz126, k127⟩ := pr123
        refine X_st [.int (iI z126), .int (iI ((x3 * z120) - z4))] rfl ?_
        refine X_iloadn hK (i := 2) 6 kd25_5.2.2.2.2.2.1 rfl rfl ?_
        refine X_callN hK [.int (iI z126), .int (iI x2)] [.int (iI ((x3 * z120) - z4))] lk_X2_53 (c5_paidFor _ _ _ _ _ S g z126 x2 (by omega) (by omega)) kd25_5.2.2.2.2.2.2.1 rfl rfl (by simp [Value.category]) (by decide) (by decide) (by decide) (by decide) (fun r128 S130 g129 pr128 qr128 hg129 => ?_)
        obtain ⟨rfl, rfl, z131, rfl, lz131, uz131, k132⟩ := pr128
        refine X_st [.int (iI z131), .int (iI ((x3 * z120) - z4))] rfl ?_
        refine X_iadd hK kd25_5.2.2.2.2.2.2.2.1 ?_
        refine X_istore hK (i := 10) [(10, .int (iI (((x3 * z120) - z4) + z131))), (9, .int (iI z120)), (8, .int (iI z96)), (7, .int (iI z4)), (5, .long y97), (0, .ref a0), (1, .int (iI x1)), (2, .int (iI x2)), (3, .int (iI x3)), (4, .int (iI x4))] kd25_5.2.2.2.2.2.2.2.2.1 (by decide) rfl ?_
        refine X_lload hK (i := 5) 4 kd25_5.2.2.2.2.2.2.2.2.2.1 rfl ?_
        refine X_iload hK (i := 10) 0 kd25_5.2.2.2.2.2.2.2.2.2.2.1 rfl ?_
        refine X_i2lE hK (by omega) kd25_5.2.2.2.2.2.2.2.2.2.2.2 ?_
        refine X_aloadn hK (i := 0) 5 kd25_6.1 rfl rfl ?_
        refine X_getK hK fl_X2_15_3 hs_a0 ekb kd25_6.2.1 ?_
        refine X_iload hK (i := 8) 2 kd25_6.2.2.1 rfl ?_
        refine X_iald hK hs_kb (by decide) sl_10600 (by omega) (by omega) kd25_6.2.2.2.1 (fun z133 ez133 lz133 uz133 => ?_)
        have hw134 : xv g kb z96 = z133 := xv_e (j := z96) ez133 (by omega)
        refine X_i2lE hK (by omega) kd25_6.2.2.2.2.1 ?_
        refine X_lmulE hK kd25_6.2.2.2.2.2.1 ?_
        refine X_laddE hK kd25_6.2.2.2.2.2.2.1 ?_
        refine X_lstore hK (i := 5) [(5, .long (y97 + ((iL (((x3 * z120) - z4) + z131)) * (iL z133)))), (10, .int (iI (((x3 * z120) - z4) + z131))), (9, .int (iI z120)), (8, .int (iI z96)), (7, .int (iI z4)), (0, .ref a0), (1, .int (iI x1)), (2, .int (iI x2)), (3, .int (iI x3)), (4, .int (iI x4))] kd25_6.2.2.2.2.2.2.2.1 (by decide) rfl ?_
        refine X_iinc hK (i := 8) (z := z96) (n := 1) 3 [(8, .int (iI (z96 + 1))), (5, .long (y97 + ((iL (((x3 * z120) - z4) + z131)) * (iL z133)))), (10, .int (iI (((x3 * z120) - z4) + z131))), (9, .int (iI z120)), (7, .int (iI z4)), (0, .ref a0), (1, .int (iI x1)), (2, .int (iI x2)), (3, .int (iI x3)), (4, .int (iI x4))] kd25_6.2.2.2.2.2.2.2.2.1 rfl (by decide) rfl ?_
        refine X_goto hK 13 kd25_6.2.2.2.2.2.2.2.2.2.1 (by decide) ?_
        refine X_lv [(8, .int (iI (z96 + 1))), (7, .int (iI z4)), (5, .long (y97 + ((iL (((x3 * z120) - z4) + z131)) * (iL z133)))), (0, .ref a0), (1, .int (iI x1)), (2, .int (iI x2)), (3, .int (iI x3)), (4, .int (iI x4))] [0, 4, 1, 5, 6, 7, 8, 9] rfl ?_
        exact ihP114  (z96 + 1) (by omega) (by omega) (y97 + ((iL (((x3 * z120) - z4) + z131)) * (iL z133))) (xgain_s v115 (by omega) hw119 hw134 (by omega) k5 k127 k132) (by omega) (by omega)
  exact P114 ((40 - 0 : Int).toNat + 1) 0 (by omega) (by omega) (iL 0) rfl (by omega) (by omega)

set_option maxHeartbeats 4000000 in
set_option maxRecDepth 100000 in
theorem c5_choose (l : Launch) (D : va_G) (kA : Nat → ClassId) (b0 : Nat) (t0 : Nat → Nat) (S : xT) (g : xG) (a0 : Nat) (x1 : Int) (x2 : Int) (x3 : Int) (ka : Nat) (kb : Nat) (kn : Int) (hs_a0 : S a0 = some (3, 0)) (hx1 : 0 ≤ x1 ∧ x1 ≤ 1000) (hx2 : 0 ≤ x2 ∧ x2 ≤ 1000) (hx3 : 0 ≤ x3 ∧ x3 ≤ 100) (eka : g a0 0 = .ref ka) (hs_ka : S ka = some (10500, 24)) (ekb : g a0 1 = .ref kb) (hs_kb : S kb = some (10600, 24)) (hkn : 0 ≤ kn ∧ kn ≤ 24) (ekn : g a0 2 = .int (iI kn)) : xMt l yX2_choose cX2_choose 8 (some .int) 2 0 0 51 D kA b0 t0 [(3, 3)] [.ref a0, .int (iI x1), .int (iI x2), .int (iI x3)] S g (fun (r : Option Value) (S1 : xT) (g1 : xG) => S = S1 ∧ ∃ z : Int, r = some (.int (iI z)) ∧ 0 ≤ z ∧ z ≤ 400 ∧ (z = (xch (xFF (xv g ka) (xv g kb) kn x1 x2 x3) 400).1) ∧ (g1 a0 3 = .long (xch (xFF (xv g ka) (xv g kb) kn x1 x2 x3) 400).2)) := by
  refine xEnterI (by decide) (by simp [lg_sl, Value.category]) [(0, .ref a0), (1, .int (iI x1)), (2, .int (iI x2)), (3, .int (iI x3))] rfl ?_
  intro K E hK hret _ _ _
  refine X_iconst hK kd25_0.1 ?_
  refine X_istore hK (i := 4) [(4, .int (iI 0)), (0, .ref a0), (1, .int (iI x1)), (2, .int (iI x2)), (3, .int (iI x3))] kd25_0.2.1 (by decide) rfl ?_
  refine X_aloadn hK (i := 0) 1 kd25_0.2.2.1 rfl rfl ?_
  refine X_aloadn hK (i := 0) 1 kd25_0.2.2.2.1 rfl rfl ?_
  refine X_iconst hK kd25_0.2.2.2.2.1 ?_
  refine X_iloadn hK (i := 1) 2 kd25_0.2.2.2.2.2.1 rfl rfl ?_
  refine X_iloadn hK (i := 2) 3 kd25_0.2.2.2.2.2.2.1 rfl rfl ?_
  refine X_iloadn hK (i := 3) 4 kd25_0.2.2.2.2.2.2.2.1 rfl rfl ?_
  refine X_callV hK [.int (iI 0), .int (iI x1), .int (iI x2), .int (iI x3)] [.ref a0] lk_X2_37 (c5_gainOf _ _ _ _ _ S g a0 0 x1 x2 x3 ka kb kn hs_a0 (by omega) (by omega) (by omega) (by omega) eka hs_ka ekb hs_kb (by omega) ekn) hs_a0 ⟨by decide, rfl⟩ kd25_0.2.2.2.2.2.2.2.2.1 rfl rfl (by simp [Value.category]) (by decide) (by decide) (by decide) (by decide) (fun r1 S3 g2 pr1 qr1 hg2 => ?_)
  obtain ⟨rfl, rfl, y4, rfl, k5⟩ := pr1
  refine X_st [.long y4, .ref a0] rfl ?_
  refine X_putl hK fl_X2_22_3 hs_a0 (by decide) sl_3_3 kd25_0.2.2.2.2.2.2.2.2.2.1 (fun g6 hg6 => ?_)
  refine X_iconst hK kd25_0.2.2.2.2.2.2.2.2.2.2.1 ?_
  refine X_istore hK (i := 5) [(5, .int (iI 1)), (4, .int (iI 0)), (0, .ref a0), (1, .int (iI x1)), (2, .int (iI x2)), (3, .int (iI x3))] kd25_0.2.2.2.2.2.2.2.2.2.2.2 (by decide) rfl ?_
  have P83 : ∀ (nP83 : Nat) (g72 : xG) (_ : xM [(3, 3)] S g6 g72) (z70 : Int) (_ : 1 ≤ z70) (_ : z70 ≤ 401) (z71 : Int) (_ : 0 ≤ z71) (_ : z71 ≤ 400) (_ : g72 a0 3 = .long (xch (xFF (xv g ka) (xv g kb) kn x1 x2 x3) (z70 - 1).toNat).2) (_ : z71 = (xch (xFF (xv g ka) (xv g kb) kn x1 x2 x3) (z70 - 1).toNat).1) (_ : 417 - z70 < (nP83 : Int)), X K E 18 [(5, .int (iI z70)), (4, .int (iI z71)), (0, .ref a0), (1, .int (iI x1)), (2, .int (iI x2)), (3, .int (iI x3))] [] S g72 0 0 := by
    intro nP83
    induction nP83 with
    | zero => intro g72 hg72 z70 lz70 uz70 z71 lz71 uz71 v84 v85 mP83; exact False.elim (by omega)
    | succ nP83 ihP83 =>
      intro g72 hg72 z70 lz70 uz70 z71 lz71 uz71 v84 v85 mP83
      refine X_iload hK (i := 5) 0 kd25_1.1 rfl ?_
      refine X_sipush hK kd25_1.2.1 (by decide) ?_
      refine X_icmp_gt hK 63 (by omega) (by omega) kd25_1.2.2.1 (by decide) (fun c86 => ?_) (fun c86 => ?_)
      · refine X_iload hK (i := 4) 1 kd25_2.2.2.2.2.2.2.2.2.2.2.1 rfl ?_
        exact hret _ _ _ _ _ _ _ kd25_2.2.2.2.2.2.2.2.2.2.2.2 ⟨rfl, z71, rfl, (by omega), (by omega), (by rw [v85, show (z70 - 1).toNat = 400 by omega]), (by rw [v84, show (z70 - 1).toNat = 400 by omega])⟩ (Nat.le_refl _) (Nat.le_refl _)
      · refine X_aloadn hK (i := 0) 2 kd25_1.2.2.2.1 rfl rfl ?_
        refine X_iload hK (i := 5) 0 kd25_1.2.2.2.2.1 rfl ?_
        refine X_iloadn hK (i := 1) 3 kd25_1.2.2.2.2.2.1 rfl rfl ?_
        refine X_iloadn hK (i := 2) 4 kd25_1.2.2.2.2.2.2.1 rfl rfl ?_
        refine X_iloadn hK (i := 3) 5 kd25_1.2.2.2.2.2.2.2.1 rfl rfl ?_
        refine X_callV hK [.int (iI z70), .int (iI x1), .int (iI x2), .int (iI x3)] [] lk_X2_37 (c5_gainOf _ _ _ _ _ S g72 a0 z70 x1 x2 x3 ka kb kn hs_a0 (by omega) (by omega) (by omega) (by omega) ((hg72 a0 3 0 0 hs_a0 (by decide)).trans ((xs_k hg6 (by decide)).trans eka)) hs_ka ((hg72 a0 3 0 1 hs_a0 (by decide)).trans ((xs_k hg6 (by decide)).trans ekb)) hs_kb (by omega) ((hg72 a0 3 0 2 hs_a0 (by decide)).trans ((xs_k hg6 (by decide)).trans ekn))) hs_a0 ⟨by decide, rfl⟩ kd25_1.2.2.2.2.2.2.2.2.1 rfl rfl (by simp [Value.category]) (by decide) (by decide) (by decide) (by decide) (fun r87 S89 g88 pr87 qr87 hg88 => ?_)
        obtain ⟨rfl, rfl, y90, rfl, k91⟩ := pr87
        refine X_st [.long y90] rfl ?_
        refine X_lstore hK (i := 6) [(6, .long y90), (5, .int (iI z70)), (4, .int (iI z71)), (0, .ref a0), (1, .int (iI x1)), (2, .int (iI x2)), (3, .int (iI x3))] kd25_1.2.2.2.2.2.2.2.2.2.1 (by decide) rfl ?_
        refine X_lload hK (i := 6) 0 kd25_1.2.2.2.2.2.2.2.2.2.2.1 rfl ?_
        refine X_aloadn hK (i := 0) 3 kd25_1.2.2.2.2.2.2.2.2.2.2.2 rfl rfl ?_
        refine X_getl hK fl_X2_22_3 hs_a0 sl_3_3 kd25_2.1 (fun y92 ey92 => ?_)
        have he93 : y92 = (xch (xFF (xv g ka) (xv g kb) kn x1 x2 x3) (z70 - 1).toNat).2 := xlinj ey92 v84
        refine X_lcmpE hK kd25_2.2.1 (fun z94 lz94 uz94 ez94 fz94 => ?_)
        refine X_if_le hK 57 (by omega) kd25_2.2.2.1 (by decide) (fun c95 => ?_) (fun c95 => ?_)
        · refine X_iinc hK (i := 5) (z := z70) (n := 1) 1 [(5, .int (iI (z70 + 1))), (6, .long y90), (4, .int (iI z71)), (0, .ref a0), (1, .int (iI x1)), (2, .int (iI x2)), (3, .int (iI x3))] kd25_2.2.2.2.2.2.2.2.2.1 rfl (by decide) rfl ?_
          refine X_goto hK 18 kd25_2.2.2.2.2.2.2.2.2.2.1 (by decide) ?_
          refine X_lv [(5, .int (iI (z70 + 1))), (4, .int (iI z71)), (0, .ref a0), (1, .int (iI x1)), (2, .int (iI x2)), (3, .int (iI x3))] [0, 2, 3, 4, 5, 6] rfl ?_
          exact ihP83  g72 (xM.tr xM.rf xLe.rf hg72 (by decide)) (z70 + 1) (by omega) (by omega) z71 (by omega) (by omega) (v84.trans (congrArg (fun q9 : Int × Int64 => Value.long q9.2) (xch_miss (y := y90) (by omega) he93 (by rw [← (Eq.trans (xv_m hg72 hs_ka (by decide) (by decide)) (xv_a hg6 (xne hs_ka hs_a0 (by decide)))), ← (Eq.trans (xv_m hg72 hs_kb (by decide) (by decide)) (xv_a hg6 (xne hs_kb hs_a0 (by decide))))]; exact k91) (fun q9 => by have h8 := fz94.mpr q9; omega))).symm) (v85.trans (congrArg Prod.fst (xch_miss (y := y90) (by omega) he93 (by rw [← (Eq.trans (xv_m hg72 hs_ka (by decide) (by decide)) (xv_a hg6 (xne hs_ka hs_a0 (by decide)))), ← (Eq.trans (xv_m hg72 hs_kb (by decide) (by decide)) (xv_a hg6 (xne hs_kb hs_a0 (by decide))))]; exact k91) (fun q9 => by have h8 := fz94.mpr q9; omega))).symm) (by omega)
        · refine X_aloadn hK (i := 0) 3 kd25_2.2.2.2.1 rfl rfl ?_
          refine X_lload hK (i := 6) 0 kd25_2.2.2.2.2.1 rfl ?_
          refine X_putl hK fl_X2_22_3 hs_a0 (by decide) sl_3_3 kd25_2.2.2.2.2.2.1 (fun g96 hg96 => ?_)
          refine X_iload hK (i := 5) 1 kd25_2.2.2.2.2.2.2.1 rfl ?_
          refine X_istore hK (i := 4) [(4, .int (iI z70)), (6, .long y90), (5, .int (iI z70)), (0, .ref a0), (1, .int (iI x1)), (2, .int (iI x2)), (3, .int (iI x3))] kd25_2.2.2.2.2.2.2.2.1 (by decide) rfl ?_
          refine X_iinc hK (i := 5) (z := z70) (n := 1) 2 [(5, .int (iI (z70 + 1))), (4, .int (iI z70)), (6, .long y90), (0, .ref a0), (1, .int (iI x1)), (2, .int (iI x2)), (3, .int (iI x3))] kd25_2.2.2.2.2.2.2.2.2.1 rfl (by decide) rfl ?_
          refine X_goto hK 18 kd25_2.2.2.2.2.2.2.2.2.2.1 (by decide) ?_
          refine X_lv [(5, .int (iI (z70 + 1))), (4, .int (iI z70)), (0, .ref a0), (1, .int (iI x1)), (2, .int (iI x2)), (3, .int (iI x3))] [0, 1, 3, 4, 5, 6] rfl ?_
          exact ihP83  g96 (xM_up (xM.tr xM.rf xLe.rf hg72 (by decide)) hg96 hs_a0 (by decide) (by decide)) (z70 + 1) (by omega) (by omega) z70 (by omega) (by omega) ((xs_s hg96).trans (congrArg (fun q9 : Int × Int64 => Value.long q9.2) (xch_hit (y := y90) (by omega) he93 (by rw [← (Eq.trans (xv_m hg72 hs_ka (by decide) (by decide)) (xv_a hg6 (xne hs_ka hs_a0 (by decide)))), ← (Eq.trans (xv_m hg72 hs_kb (by decide) (by decide)) (xv_a hg6 (xne hs_kb hs_a0 (by decide))))]; exact k91) (fz94.mp (by omega)))).symm) ((congrArg Prod.fst (xch_hit (y := y90) (by omega) he93 (by rw [← (Eq.trans (xv_m hg72 hs_ka (by decide) (by decide)) (xv_a hg6 (xne hs_ka hs_a0 (by decide)))), ← (Eq.trans (xv_m hg72 hs_kb (by decide) (by decide)) (xv_a hg6 (xne hs_kb hs_a0 (by decide))))]; exact k91) (fz94.mp (by omega)))).symm) (by omega)
  exact P83 ((417 - 1 : Int).toNat + 1) g6 xM.rf 1 (by omega) (by omega) 0 (by omega) (by omega) ((xs_s hg6).trans (congrArg Value.long k5)) rfl (by omega)

set_option maxHeartbeats 4000000 in
set_option maxRecDepth 100000 in
theorem c5_learn (l : Launch) (D : va_G) (kA : Nat → ClassId) (b0 : Nat) (t0 : Nat → Nat) (S : xT) (g : xG) (a0 : Nat) (a1 : Nat) (x2 : Int) (x3 : Int) (a4 : Nat) (ka : Nat) (kb : Nat) (wg : Nat) (wt : Nat) (ld : Nat) (fb : Nat) (wr : Nat) (hs_a0 : S a0 = some (3, 0)) (hs_a1 : S a1 = some (4, 0)) (hx2 : 0 ≤ x2 ∧ x2 ≤ 9) (hx3 : 0 ≤ x3 ∧ x3 ≤ 3) (hs_a4 : S a4 = some (10, 0)) (eka : g a0 0 = .ref ka) (hs_ka : S ka = some (10500, 24)) (ekb : g a0 1 = .ref kb) (hs_kb : S kb = some (10600, 24)) (ewg : g a1 4 = .ref wg) (hs_wg : S wg = some (11304, 10)) (ewt : g a1 2 = .ref wt) (hs_wt : S wt = some (11000, 4)) (eld : g a1 3 = .ref ld) (hs_ld : S ld = some (11100, 6)) (efb : g a4 0 = .ref fb) (hs_fb : S fb = some (13500, 420)) (hp0 : g wg x2.toNat = .ref wr) (hp1 : S wr = some (11200, 4)) : xMt l yX2_learn cX2_learn 8 none 1 0 0 25 D kA b0 t0 [(3, 2), (10500, 0), (10600, 0)] [.ref a0, .ref a1, .int (iI x2), .int (iI x3), .ref a4] S g (fun (r : Option Value) (S1 : xT) (g1 : xG) => S = S1 ∧ r = none ∧ (∃ kn : Int, 0 ≤ kn ∧ kn ≤ 24 ∧ g1 a0 2 = .int (iI kn) ∧ xLn (xv g1 ka) (xv g1 kb) kn (xA (xv g wr x3) (xv g wt) (xv g ld)) (xT6 (xv g fb)) 24)) := by
  refine xEnterV (by decide) (by simp [lg_sl, Value.category]) [(0, .ref a0), (1, .ref a1), (2, .int (iI x2)), (3, .int (iI x3)), (4, .ref a4)] rfl ?_
  intro K E hK hret _ _ _
  refine X_aloadn hK (i := 0) 0 kd39_59.2.2.2.2.2.2.2.2.1 rfl rfl ?_
  refine X_iconst hK kd39_59.2.2.2.2.2.2.2.2.2.1 ?_
  refine X_puti hK fl_X2_18_3 hs_a0 (by decide) sl_3_2 (by omega) (by omega) kd39_59.2.2.2.2.2.2.2.2.2.2.1 (fun g1 hg1 => ?_)
  refine X_iconst hK kd39_59.2.2.2.2.2.2.2.2.2.2.2 ?_
  refine X_istore hK (i := 5) [(5, .int (iI 0)), (0, .ref a0), (1, .ref a1), (2, .int (iI x2)), (3, .int (iI x3)), (4, .ref a4)] kd39_60.1 (by decide) rfl ?_
  have P691 : ∀ (nP691 : Nat) (g577 : xG) (_ : xM [(3, 2), (10600, 0), (10500, 0)] S g1 g577) (z576 : Int) (_ : 0 ≤ z576) (_ : z576 ≤ 4) (q578 : Int) (_ : 0 ≤ q578) (_ : q578 ≤ 24) (_ : g577 a0 2 = .int (iI q578)) (_ : q578 ≤ 6 * z576) (_ : xLn (xv g577 ka) (xv g577 kb) q578 (xA (xv g wr x3) (xv g wt) (xv g ld)) (xT6 (xv g fb)) (6 * z576)) (_ : 20 - z576 < (nP691 : Int)), X K E 8 [(5, .int (iI z576)), (0, .ref a0), (1, .ref a1), (2, .int (iI x2)), (3, .int (iI x3)), (4, .ref a4)] [] S g577 0 0 := by
    intro nP691
    induction nP691 with
    | zero => intro g577 hg577 z576 lz576 uz576 q578 lq578 uq578 eq578 v692 v693 mP691; exact False.elim (by omega)
    | succ nP691 ihP691 =>
      intro g577 hg577 z576 lz576 uz576 q578 lq578 uq578 eq578 v692 v693 mP691
      refine X_iload hK (i := 5) 0 kd39_60.2.1 rfl ?_
      refine X_iconst hK kd39_60.2.2.1 ?_
      refine X_icmp_ge hK 102 (by omega) (by omega) kd39_60.2.2.2.1 (by decide) (fun c694 => ?_) (fun c694 => ?_)
      · exact hret _ _ _ _ _ _ kd39_64.2.2.1 ⟨rfl, rfl, ⟨q578, by omega, by omega, eq578, xLn.at v693 (by omega)⟩⟩ (Nat.le_refl _) (Nat.le_refl _)
      · refine X_iconst hK kd39_60.2.2.2.2.1 ?_
        refine X_istore hK (i := 6) [(6, .int (iI 0)), (5, .int (iI z576)), (0, .ref a0), (1, .ref a1), (2, .int (iI x2)), (3, .int (iI x3)), (4, .ref a4)] kd39_60.2.2.2.2.2.1 (by decide) rfl ?_
        have P790 : ∀ (nP790 : Nat) (g775 : xG) (_ : xM [(3, 2), (10600, 0), (10500, 0)] S g577 g775) (z774 : Int) (_ : 0 ≤ z774) (_ : z774 ≤ 6) (q776 : Int) (_ : 0 ≤ q776) (_ : q776 ≤ 24) (_ : g775 a0 2 = .int (iI q776)) (_ : q776 ≤ 6 * z576 + z774) (_ : xLn (xv g775 ka) (xv g775 kb) q776 (xA (xv g wr x3) (xv g wt) (xv g ld)) (xT6 (xv g fb)) (6 * z576 + z774)) (_ : 22 - z774 < (nP790 : Int)), X K E 17 [(6, .int (iI z774)), (5, .int (iI z576)), (0, .ref a0), (1, .ref a1), (2, .int (iI x2)), (3, .int (iI x3)), (4, .ref a4)] [] S g775 0 0 := by
          intro nP790
          induction nP790 with
          | zero => intro g775 hg775 z774 lz774 uz774 q776 lq776 uq776 eq776 v791 v792 mP790; exact False.elim (by omega)
          | succ nP790 ihP790 =>
            intro g775 hg775 z774 lz774 uz774 q776 lq776 uq776 eq776 v791 v792 mP790
            refine X_iload hK (i := 6) 0 kd39_60.2.2.2.2.2.2.1 rfl ?_
            refine X_bipush hK kd39_60.2.2.2.2.2.2.2.1 (by decide) ?_
            refine X_icmp_ge hK 96 (by omega) (by omega) kd39_60.2.2.2.2.2.2.2.2.1 (by decide) (fun c793 => ?_) (fun c793 => ?_)
            · refine X_iinc hK (i := 5) (z := z576) (n := 1) 1 [(5, .int (iI (z576 + 1))), (6, .int (iI z774)), (0, .ref a0), (1, .ref a1), (2, .int (iI x2)), (3, .int (iI x3)), (4, .ref a4)] kd39_64.1 rfl (by decide) rfl ?_
              refine X_goto hK 8 kd39_64.2.1 (by decide) ?_
              refine X_lv [(5, .int (iI (z576 + 1))), (0, .ref a0), (1, .ref a1), (2, .int (iI x2)), (3, .int (iI x3)), (4, .ref a4)] [0, 2, 3, 4, 5, 6] rfl ?_
              exact ihP691  g775 (xM.tr (xM.tr xM.rf xLe.rf hg577 (by decide)) xLe.rf hg775 (by decide)) (z576 + 1) (by omega) (by omega) q776 (by omega) (by omega) eq776 (by omega) (xLn.at v792 (by omega)) (by omega)
            · refine X_aload hK (i := 4) 6 kd39_60.2.2.2.2.2.2.2.2.2.1 rfl ?_
              refine X_getK hK fl_X2_26_10 hs_a4 ((hg775 a4 10 0 0 hs_a4 (by decide)).trans ((hg577 a4 10 0 0 hs_a4 (by decide)).trans ((xs_k hg1 (by decide)).trans efb))) kd39_60.2.2.2.2.2.2.2.2.2.2.1 ?_
              refine X_iload hK (i := 5) 1 kd39_60.2.2.2.2.2.2.2.2.2.2.2 rfl ?_
              refine X_iald hK hs_fb (by decide) sl_13500 (by omega) (by omega) kd39_61.1 (fun z794 ez794 lz794 uz794 => ?_)
              have hl795 : xv g fb z576 = z794 := xv_e (j := z576) ((((hg775 _ _ _ _ hs_fb (by rw [xky_a (by decide)]; decide)).trans (hg577 _ _ _ _ hs_fb (by rw [xky_a (by decide)]; decide))).trans (xs_a hg1 (xne hs_fb hs_a0 (by decide)))).symm.trans ez794) (by omega)
              refine X_aload hK (i := 4) 6 kd39_61.2.1 rfl ?_
              refine X_getK hK fl_X2_26_10 hs_a4 ((hg775 a4 10 0 0 hs_a4 (by decide)).trans ((hg577 a4 10 0 0 hs_a4 (by decide)).trans ((xs_k hg1 (by decide)).trans efb))) kd39_61.2.2.1 ?_
              refine X_iconst hK kd39_61.2.2.2.1 ?_
              refine X_iload hK (i := 6) 0 kd39_61.2.2.2.2.1 rfl ?_
              refine X_iadd hK kd39_61.2.2.2.2.2.1 ?_
              refine X_iald hK hs_fb (by decide) sl_13500 (by omega) (by omega) kd39_61.2.2.2.2.2.2.1 (fun z796 ez796 lz796 uz796 => ?_)
              have hl797 : xv g fb (4 + z774) = z796 := xv_e (j := (4 + z774)) ((((hg775 _ _ _ _ hs_fb (by rw [xky_a (by decide)]; decide)).trans (hg577 _ _ _ _ hs_fb (by rw [xky_a (by decide)]; decide))).trans (xs_a hg1 (xne hs_fb hs_a0 (by decide)))).symm.trans ez796) (by omega)
              refine X_imul hK kd39_61.2.2.2.2.2.2.2.1 ?_
              have hm798 := xmulB (a := z794) (b := z796) (A := 255) (B := 255) (by omega) (by omega) (by omega) (by omega)
              refine X_istore hK (i := 7) [(7, .int (iI (z794 * z796))), (6, .int (iI z774)), (5, .int (iI z576)), (0, .ref a0), (1, .ref a1), (2, .int (iI x2)), (3, .int (iI x3)), (4, .ref a4)] kd39_61.2.2.2.2.2.2.2.2.1 (by decide) rfl ?_
              refine X_iload hK (i := 7) 0 kd39_61.2.2.2.2.2.2.2.2.2.1 rfl ?_
              refine X_if_le hK 90 (by omega) kd39_61.2.2.2.2.2.2.2.2.2.2.1 (by decide) (fun c799 => ?_) (fun c799 => ?_)
              · refine X_iinc hK (i := 6) (z := z774) (n := 1) 1 [(6, .int (iI (z774 + 1))), (7, .int (iI (z794 * z796))), (5, .int (iI z576)), (0, .ref a0), (1, .ref a1), (2, .int (iI x2)), (3, .int (iI x3)), (4, .ref a4)] kd39_63.2.2.2.2.2.2.2.2.2.2.1 rfl (by decide) rfl ?_
                refine X_goto hK 17 kd39_63.2.2.2.2.2.2.2.2.2.2.2 (by decide) ?_
                refine X_lv [(6, .int (iI (z774 + 1))), (5, .int (iI z576)), (0, .ref a0), (1, .ref a1), (2, .int (iI x2)), (3, .int (iI x3)), (4, .ref a4)] [0, 2, 3, 4, 5, 6, 7] rfl ?_
                exact ihP790  g775 (xM.tr xM.rf xLe.rf hg775 (by decide)) (z774 + 1) (by omega) (by omega) q776 (by omega) (by omega) eq776 (by omega) (xLn.at (xLn.skip v792 (by omega) (by rw [xT_j (by omega), hl795, hl797]; omega)) (by omega)) (by omega)
              · refine X_aloadn hK (i := 0) 3 kd39_61.2.2.2.2.2.2.2.2.2.2.2 rfl rfl ?_
                refine X_getK hK fl_X2_9_3 hs_a0 ((hg775 a0 3 0 0 hs_a0 (by decide)).trans ((hg577 a0 3 0 0 hs_a0 (by decide)).trans ((xs_k hg1 (by decide)).trans eka))) kd39_62.1 ?_
                refine X_aloadn hK (i := 0) 3 kd39_62.2.1 rfl rfl ?_
                refine X_getK hK fl_X2_18_3 hs_a0 eq776 kd39_62.2.2.1 ?_
                refine X_aloadn hK (i := 1) 4 kd39_62.2.2.2.1 rfl rfl ?_
                refine X_iloadn hK (i := 2) 5 kd39_62.2.2.2.2.1 rfl rfl ?_
                refine X_iloadn hK (i := 3) 6 kd39_62.2.2.2.2.2.1 rfl rfl ?_
                refine X_iload hK (i := 5) 2 kd39_62.2.2.2.2.2.2.1 rfl ?_
                refine X_iload hK (i := 6) 1 kd39_62.2.2.2.2.2.2.2.1 rfl ?_
                refine X_callV hK [.int (iI x2), .int (iI x3), .int (iI z576), .int (iI z774)] [.int (iI q776), .ref ka] lk_X2_31 (c_X3_askedFor _ _ _ _ _ S g775 a1 x2 x3 z576 z774 wg wt ld hs_a1 (by omega) (by omega) (by omega) (by omega) ((hg775 a1 4 0 4 hs_a1 (by decide)).trans ((hg577 a1 4 0 4 hs_a1 (by decide)).trans ((xs_k hg1 (by decide)).trans ewg))) hs_wg ((hg775 a1 4 0 2 hs_a1 (by decide)).trans ((hg577 a1 4 0 2 hs_a1 (by decide)).trans ((xs_a hg1 (xne hs_a1 hs_a0 (by decide))).trans ewt))) hs_wt ((hg775 a1 4 0 3 hs_a1 (by decide)).trans ((hg577 a1 4 0 3 hs_a1 (by decide)).trans ((xs_k hg1 (by decide)).trans eld))) hs_ld) hs_a1 ⟨by decide, rfl⟩ kd39_62.2.2.2.2.2.2.2.2.1 rfl rfl (by simp [Value.category]) (by decide) (by decide) (by decide) (by decide) (fun r800 S802 g801 pr800 qr800 hg801 => ?_)
                obtain ⟨rfl, rfl, z803, rfl, lz803, uz803, k804⟩ := pr800
                refine X_st [.int (iI z803), .int (iI q776), .ref ka] rfl ?_
                have hA805 : z803 = xas (xv g wr x3) (xv g wt z576) (xv g ld z774) := by
                  obtain ⟨w9, e9, a9⟩ := k804
                  have q9 : w9 = wr := by have h9 := ((((hg775 _ _ _ _ hs_wg (by rw [xky_a (by decide)]; decide)).trans (hg577 _ _ _ _ hs_wg (by rw [xky_a (by decide)]; decide))).trans (xs_a hg1 (xne hs_wg hs_a0 (by decide)))).symm.trans e9).symm.trans hp0; cases h9; rfl
                  rw [a9, q9, (Eq.trans (Eq.trans (xv_m hg775 hp1 (by decide) (by decide)) (xv_m hg577 hp1 (by decide) (by decide))) (xv_a hg1 (xne hp1 hs_a0 (by decide)))), (Eq.trans (Eq.trans (xv_m hg775 hs_wt (by decide) (by decide)) (xv_m hg577 hs_wt (by decide) (by decide))) (xv_a hg1 (xne hs_wt hs_a0 (by decide)))), (Eq.trans (Eq.trans (xv_m hg775 hs_ld (by decide) (by decide)) (xv_m hg577 hs_ld (by decide) (by decide))) (xv_a hg1 (xne hs_ld hs_a0 (by decide))))]
                refine X_iast hK hs_ka (by decide) (by decide) sl_10500 (by omega) (by omega) (by omega) (by omega) kd39_62.2.2.2.2.2.2.2.2.2.1 (fun g806 hg806 => ?_)
                refine X_aloadn hK (i := 0) 3 kd39_62.2.2.2.2.2.2.2.2.2.2.1 rfl rfl ?_
                refine X_getK hK fl_X2_15_3 hs_a0 ((xs_a hg806 (xne hs_a0 hs_ka (by decide))).trans ((hg775 a0 3 0 1 hs_a0 (by decide)).trans ((hg577 a0 3 0 1 hs_a0 (by decide)).trans ((xs_k hg1 (by decide)).trans ekb)))) kd39_62.2.2.2.2.2.2.2.2.2.2.2 ?_
                refine X_aloadn hK (i := 0) 3 kd39_63.1 rfl rfl ?_
                refine X_getK hK fl_X2_18_3 hs_a0 ((xs_a hg806 (xne hs_a0 hs_ka (by decide))).trans eq776) kd39_63.2.1 ?_
                refine X_iload hK (i := 7) 0 kd39_63.2.2.1 rfl ?_
                refine X_iast hK hs_kb (by decide) (by decide) sl_10600 (by omega) (by omega) (by omega) (by omega) kd39_63.2.2.2.1 (fun g807 hg807 => ?_)
                refine X_aloadn hK (i := 0) 3 kd39_63.2.2.2.2.1 rfl rfl ?_
                refine X_dup hK kd39_63.2.2.2.2.2.1 rfl ?_
                refine X_getK hK fl_X2_18_3 hs_a0 ((xs_a hg807 (xne hs_a0 hs_kb (by decide))).trans ((xs_a hg806 (xne hs_a0 hs_ka (by decide))).trans eq776)) kd39_63.2.2.2.2.2.2.1 ?_
                refine X_iconst hK kd39_63.2.2.2.2.2.2.2.1 ?_
                refine X_iadd hK kd39_63.2.2.2.2.2.2.2.2.1 ?_
                refine X_puti hK fl_X2_18_3 hs_a0 (by decide) sl_3_2 (by omega) (by omega) kd39_63.2.2.2.2.2.2.2.2.2.1 (fun g808 hg808 => ?_)
                refine X_iinc hK (i := 6) (z := z774) (n := 1) 1 [(6, .int (iI (z774 + 1))), (7, .int (iI (z794 * z796))), (5, .int (iI z576)), (0, .ref a0), (1, .ref a1), (2, .int (iI x2)), (3, .int (iI x3)), (4, .ref a4)] kd39_63.2.2.2.2.2.2.2.2.2.2.1 rfl (by decide) rfl ?_
                refine X_goto hK 17 kd39_63.2.2.2.2.2.2.2.2.2.2.2 (by decide) ?_
                refine X_lv [(6, .int (iI (z774 + 1))), (5, .int (iI z576)), (0, .ref a0), (1, .ref a1), (2, .int (iI x2)), (3, .int (iI x3)), (4, .ref a4)] [0, 2, 3, 4, 5, 6, 7] rfl ?_
                exact ihP790  g808 (xM_up (xM_ua (xM_ua (xM.tr xM.rf xLe.rf hg775 (by decide)) hg806 hs_ka (by decide) (by decide)) hg807 hs_kb (by decide) (by decide)) hg808 hs_a0 (by decide) (by decide)) (z774 + 1) (by omega) (by omega) (q776 + 1) (by omega) (by omega) (xs_s hg808) (by omega) (xLn.at (xLn.add v792 (by omega) (by omega) (Eq.trans (show xv g808 ka q776 = z803 from by rw [(xv_a hg808 (xne hs_ka hs_a0 (by decide))), (xv_a hg807 (xne hs_ka hs_kb (by decide))), xv_s hg806 (by omega)]) (by rw [xA_j (by omega)]; exact hA805)) (Eq.trans (show xv g808 kb q776 = (z794 * z796) from by rw [(xv_a hg808 (xne hs_kb hs_a0 (by decide))), xv_s hg807 (by omega)]) (by rw [xT_j (by omega), hl795, hl797])) (fun i9 hi9 h09 => (show xv g808 ka i9 = xv g775 ka i9 from by rw [(xv_a hg808 (xne hs_ka hs_a0 (by decide))), (xv_a hg807 (xne hs_ka hs_kb (by decide))), (xv_k (i := i9) hg806 (by omega) (by omega) (by omega))])) (fun i9 hi9 h09 => (show xv g808 kb i9 = xv g775 kb i9 from by rw [(xv_a hg808 (xne hs_kb hs_a0 (by decide))), (xv_k (i := i9) hg807 (by omega) (by omega) (by omega)), (xv_a hg806 (xne hs_kb hs_ka (by decide)))]))) (by omega)) (by omega)
        exact P790 ((22 - 0 : Int).toNat + 1) g577 xM.rf 0 (by omega) (by omega) q578 (by omega) (by omega) eq578 (by omega) (xLn.at v693 (by omega)) (by omega)
  exact P691 ((20 - 0 : Int).toNat + 1) g1 xM.rf 0 (by omega) (by omega) 0 (by omega) (by omega) (xs_s hg1) (by omega) (xLn.at xLn.z (by omega)) (by omega)

set_option maxHeartbeats 4000000 in
set_option maxRecDepth 100000 in
theorem c5_best (l : Launch) (D : va_G) (kA : Nat → ClassId) (b0 : Nat) (t0 : Nat → Nat) (S : xT) (g : xG) (a0 : Nat) (x1 : Int) (x2 : Int) (x3 : Int) (x4 : Int) (x5 : Int) (w0 : Nat) (n0 : Int) (y0 : Nat) (ch : Nat) (ct : Nat) (wg : Nat) (wt : Nat) (ld : Nat) (hs_a0 : S a0 = some (12, 0)) (hx1 : (-2147483648) ≤ x1 ∧ x1 ≤ 2147483647) (hx2 : (-2147483648) ≤ x2 ∧ x2 ≤ 2147483647) (hx3 : (-2147483648) ≤ x3 ∧ x3 ≤ 2147483647) (hx4 : (-2147483648) ≤ x4 ∧ x4 ≤ 2147483647) (hx5 : (-2147483648) ≤ x5 ∧ x5 ≤ 2147483647) (ew0 : g a0 0 = .ref w0) (hs_w0 : S w0 = some (10, 0)) (hn0 : 0 ≤ n0 ∧ n0 ≤ 420) (en0 : g w0 1 = .int (iI n0)) (ey0 : g w0 0 = .ref y0) (hs_y0 : S y0 = some (13500, 420)) (ech : g a0 8 = .ref ch) (hs_ch : S ch = some (3, 0)) (ect : g a0 2 = .ref ct) (hs_ct : S ct = some (4, 0)) (ewg : g ct 4 = .ref wg) (hs_wg : S wg = some (11304, 10)) (ewt : g ct 2 = .ref wt) (hs_wt : S wt = some (11000, 4)) (eld : g ct 3 = .ref ld) (hs_ld : S ld = some (11100, 6)) : xMt l yX11_best cX11_best 7 (some .int) 3 0 0 78 D kA b0 t0 [(10, 1), (3, 2), (10500, 0), (10600, 0), (3, 3)] [.ref a0, .int (iI x1), .int (iI x2), .int (iI x3), .int (iI x4), .int (iI x5)] S g (fun (r : Option Value) (S1 : xT) (g1 : xG) => S = S1 ∧ ∃ z : Int, r = some (.int (iI z)) ∧ (-1) ≤ z ∧ z ≤ 400 ∧ (g1 w0 1 = .int (iI (0))) ∧ (xBe (xrw g wg x1 x2) (xv g wt) (xv g ld) (xv g y0) x1 x2 x3 x4 x5 n0 z (g ch 3) (g1 ch 3))) := by
  refine xEnterI (by decide) (by simp [lg_sl, Value.category]) [(0, .ref a0), (1, .int (iI x1)), (2, .int (iI x2)), (3, .int (iI x3)), (4, .int (iI x4)), (5, .int (iI x5))] rfl ?_
  intro K E hK hret _ _ _
  refine X_iconst hK kd39_7.1 ?_
  refine X_istore hK (i := 6) [(6, .int (iI (-1))), (0, .ref a0), (1, .int (iI x1)), (2, .int (iI x2)), (3, .int (iI x3)), (4, .int (iI x4)), (5, .int (iI x5))] kd39_7.2.1 (by decide) rfl ?_
  refine X_iloadn hK (i := 1) 2 kd39_7.2.2.1 rfl rfl ?_
  refine X_callS hK [.int (iI x1)] [] lk_X11_142 (c_X11_isCorner _ _ _ _ _ S g x1 (by omega)) kd39_7.2.2.2.1 rfl rfl (by simp [Value.category]) (by decide) (by decide) (by decide) (by decide) (fun r1 S3 g2 pr1 qr1 hg2 => ?_)
  obtain ⟨rfl, rfl, z4, rfl, lz4, uz4, k5⟩ := pr1
  refine X_st [.int (iI z4)] rfl ?_
  refine X_if_eq hK 106 (by omega) kd39_7.2.2.2.2.1 (by decide) (fun c6 => ?_) (fun c6 => ?_)
  · refine X_aloadn hK (i := 0) 1 kd39_11.2.1 rfl rfl ?_
    refine X_getK hK fl_X11_10_12 hs_a0 ew0 kd39_11.2.2.1 ?_
    refine X_iconst hK kd39_11.2.2.2.1 ?_
    refine X_puti hK fl_X11_102_10 hs_w0 (by decide) sl_10_1 (by omega) (by omega) kd39_11.2.2.2.2.1 (fun g7 hg7 => ?_)
    refine X_iload hK (i := 6) 0 kd39_11.2.2.2.2.2.1 rfl ?_
    exact hret _ _ _ _ _ _ _ kd39_11.2.2.2.2.2.2.1 ⟨rfl, (-1), rfl, (by omega), (by omega), ((xs_s hg7).trans (by congr 2 <;> omega)), (Or.inr ⟨(fun q9 => by have h8 := q9.1; omega), by omega, (xs_k hg7 (by decide))⟩)⟩ (Nat.le_refl _) (Nat.le_refl _)
  · refine X_iloadn hK (i := 2) 3 kd39_7.2.2.2.2.2.1 rfl rfl ?_
    refine X_callS hK [.int (iI x2)] [] lk_X11_165 (c_X11_isPaper _ _ _ _ _ S g x2 (by omega)) kd39_7.2.2.2.2.2.2.1 rfl rfl (by simp [Value.category]) (by decide) (by decide) (by decide) (by decide) (fun r8 S10 g9 pr8 qr8 hg9 => ?_)
    obtain ⟨rfl, rfl, z11, rfl, lz11, uz11, k12⟩ := pr8
    refine X_st [.int (iI z11)] rfl ?_
    refine X_if_eq hK 106 (by omega) kd39_7.2.2.2.2.2.2.2.1 (by decide) (fun c13 => ?_) (fun c13 => ?_)
    · refine X_aloadn hK (i := 0) 1 kd39_11.2.1 rfl rfl ?_
      refine X_getK hK fl_X11_10_12 hs_a0 ew0 kd39_11.2.2.1 ?_
      refine X_iconst hK kd39_11.2.2.2.1 ?_
      refine X_puti hK fl_X11_102_10 hs_w0 (by decide) sl_10_1 (by omega) (by omega) kd39_11.2.2.2.2.1 (fun g14 hg14 => ?_)
      refine X_iload hK (i := 6) 0 kd39_11.2.2.2.2.2.1 rfl ?_
      exact hret _ _ _ _ _ _ _ kd39_11.2.2.2.2.2.2.1 ⟨rfl, (-1), rfl, (by omega), (by omega), ((xs_s hg14).trans (by congr 2 <;> omega)), (Or.inr ⟨(fun q9 => by have h8 := q9.1; omega), by omega, (xs_k hg14 (by decide))⟩)⟩ (Nat.le_refl _) (Nat.le_refl _)
    · refine X_iloadn hK (i := 3) 4 kd39_7.2.2.2.2.2.2.2.2.1 rfl rfl ?_
      refine X_iconst hK kd39_7.2.2.2.2.2.2.2.2.2.1 ?_
      refine X_sipush hK kd39_7.2.2.2.2.2.2.2.2.2.2.1 (by decide) ?_
      refine X_callS hK [.int (iI x3), .int (iI 0), .int (iI 1000)] [] lk_X11_115 (c_X11_within _ _ _ _ _ S g x3 0 1000 (by omega) (by omega) (by omega)) kd39_7.2.2.2.2.2.2.2.2.2.2.2 rfl rfl (by simp [Value.category]) (by decide) (by decide) (by decide) (by decide) (fun r15 S17 g16 pr15 qr15 hg16 => ?_)
      obtain ⟨rfl, rfl, z18, rfl, lz18, uz18, k19⟩ := pr15
      refine X_st [.int (iI z18)] rfl ?_
      refine X_if_eq hK 106 (by omega) kd39_8.1 (by decide) (fun c20 => ?_) (fun c20 => ?_)
      · refine X_aloadn hK (i := 0) 1 kd39_11.2.1 rfl rfl ?_
        refine X_getK hK fl_X11_10_12 hs_a0 ew0 kd39_11.2.2.1 ?_
        refine X_iconst hK kd39_11.2.2.2.1 ?_
        refine X_puti hK fl_X11_102_10 hs_w0 (by decide) sl_10_1 (by omega) (by omega) kd39_11.2.2.2.2.1 (fun g21 hg21 => ?_)
        refine X_iload hK (i := 6) 0 kd39_11.2.2.2.2.2.1 rfl ?_
        exact hret _ _ _ _ _ _ _ kd39_11.2.2.2.2.2.2.1 ⟨rfl, (-1), rfl, (by omega), (by omega), ((xs_s hg21).trans (by congr 2 <;> omega)), (Or.inr ⟨(fun q9 => by have h8 := q9.1; omega), by omega, (xs_k hg21 (by decide))⟩)⟩ (Nat.le_refl _) (Nat.le_refl _)
      · refine X_iload hK (i := 4) 5 kd39_8.2.1 rfl ?_
        refine X_iconst hK kd39_8.2.2.1 ?_
        refine X_sipush hK kd39_8.2.2.2.1 (by decide) ?_
        refine X_callS hK [.int (iI x4), .int (iI 0), .int (iI 1000)] [] lk_X11_115 (c_X11_within _ _ _ _ _ S g x4 0 1000 (by omega) (by omega) (by omega)) kd39_8.2.2.2.2.1 rfl rfl (by simp [Value.category]) (by decide) (by decide) (by decide) (by decide) (fun r22 S24 g23 pr22 qr22 hg23 => ?_)
        obtain ⟨rfl, rfl, z25, rfl, lz25, uz25, k26⟩ := pr22
        refine X_st [.int (iI z25)] rfl ?_
        refine X_if_eq hK 106 (by omega) kd39_8.2.2.2.2.2.1 (by decide) (fun c27 => ?_) (fun c27 => ?_)
        · refine X_aloadn hK (i := 0) 1 kd39_11.2.1 rfl rfl ?_
          refine X_getK hK fl_X11_10_12 hs_a0 ew0 kd39_11.2.2.1 ?_
          refine X_iconst hK kd39_11.2.2.2.1 ?_
          refine X_puti hK fl_X11_102_10 hs_w0 (by decide) sl_10_1 (by omega) (by omega) kd39_11.2.2.2.2.1 (fun g28 hg28 => ?_)
          refine X_iload hK (i := 6) 0 kd39_11.2.2.2.2.2.1 rfl ?_
          exact hret _ _ _ _ _ _ _ kd39_11.2.2.2.2.2.2.1 ⟨rfl, (-1), rfl, (by omega), (by omega), ((xs_s hg28).trans (by congr 2 <;> omega)), (Or.inr ⟨(fun q9 => by have h8 := q9.1; omega), by omega, (xs_k hg28 (by decide))⟩)⟩ (Nat.le_refl _) (Nat.le_refl _)
        · refine X_iload hK (i := 5) 6 kd39_8.2.2.2.2.2.2.1 rfl ?_
          refine X_iconst hK kd39_8.2.2.2.2.2.2.2.1 ?_
          refine X_bipush hK kd39_8.2.2.2.2.2.2.2.2.1 (by decide) ?_
          refine X_callS hK [.int (iI x5), .int (iI 0), .int (iI 100)] [] lk_X11_115 (c_X11_within _ _ _ _ _ S g x5 0 100 (by omega) (by omega) (by omega)) kd39_8.2.2.2.2.2.2.2.2.2.1 rfl rfl (by simp [Value.category]) (by decide) (by decide) (by decide) (by decide) (fun r29 S31 g30 pr29 qr29 hg30 => ?_)
          obtain ⟨rfl, rfl, z32, rfl, lz32, uz32, k33⟩ := pr29
          refine X_st [.int (iI z32)] rfl ?_
          refine X_if_eq hK 106 (by omega) kd39_8.2.2.2.2.2.2.2.2.2.2.1 (by decide) (fun c34 => ?_) (fun c34 => ?_)
          · refine X_aloadn hK (i := 0) 1 kd39_11.2.1 rfl rfl ?_
            refine X_getK hK fl_X11_10_12 hs_a0 ew0 kd39_11.2.2.1 ?_
            refine X_iconst hK kd39_11.2.2.2.1 ?_
            refine X_puti hK fl_X11_102_10 hs_w0 (by decide) sl_10_1 (by omega) (by omega) kd39_11.2.2.2.2.1 (fun g35 hg35 => ?_)
            refine X_iload hK (i := 6) 0 kd39_11.2.2.2.2.2.1 rfl ?_
            exact hret _ _ _ _ _ _ _ kd39_11.2.2.2.2.2.2.1 ⟨rfl, (-1), rfl, (by omega), (by omega), ((xs_s hg35).trans (by congr 2 <;> omega)), (Or.inr ⟨(fun q9 => by have h8 := q9.1; omega), by omega, (xs_k hg35 (by decide))⟩)⟩ (Nat.le_refl _) (Nat.le_refl _)
          · refine X_aloadn hK (i := 0) 1 kd39_8.2.2.2.2.2.2.2.2.2.2.2 rfl rfl ?_
            refine X_getK hK fl_X11_10_12 hs_a0 ew0 kd39_9.1 ?_
            refine X_getK hK fl_X11_102_10 hs_w0 en0 kd39_9.2.1 ?_
            refine X_bipush hK kd39_9.2.2.1 (by decide) ?_
            refine X_icmp_ne hK 106 (by omega) (by omega) kd39_9.2.2.2.1 (by decide) (fun c36 => ?_) (fun c36 => ?_)
            · refine X_aloadn hK (i := 0) 1 kd39_11.2.1 rfl rfl ?_
              refine X_getK hK fl_X11_10_12 hs_a0 ew0 kd39_11.2.2.1 ?_
              refine X_iconst hK kd39_11.2.2.2.1 ?_
              refine X_puti hK fl_X11_102_10 hs_w0 (by decide) sl_10_1 (by omega) (by omega) kd39_11.2.2.2.2.1 (fun g37 hg37 => ?_)
              refine X_iload hK (i := 6) 0 kd39_11.2.2.2.2.2.1 rfl ?_
              exact hret _ _ _ _ _ _ _ kd39_11.2.2.2.2.2.2.1 ⟨rfl, (-1), rfl, (by omega), (by omega), ((xs_s hg37).trans (by congr 2 <;> omega)), (Or.inr ⟨(fun q9 => by have h8 := q9.1; omega), by omega, (xs_k hg37 (by decide))⟩)⟩ (Nat.le_refl _) (Nat.le_refl _)
            · refine X_aloadn hK (i := 0) 1 kd39_9.2.2.2.2.1 rfl rfl ?_
              refine X_getK hK fl_X11_10_12 hs_a0 ew0 kd39_9.2.2.2.2.2.1 ?_
              refine X_bipush hK kd39_9.2.2.2.2.2.2.1 (by decide) ?_
              refine X_callV hK [.int (iI 20)] [] lk_X11_294 (c5_noneAbove _ _ _ _ _ S g w0 20 y0 n0 hs_w0 (by omega) ey0 hs_y0 (by omega) en0) hs_w0 ⟨by decide, rfl⟩ kd39_9.2.2.2.2.2.2.2.1 rfl rfl (by simp [Value.category]) (by decide) (by decide) (by decide) (by decide) (fun r38 S40 g39 pr38 qr38 hg39 => ?_)
              obtain ⟨rfl, rfl, z41, rfl, lz41, uz41, k42⟩ := pr38
              refine X_st [.int (iI z41)] rfl ?_
              refine X_if_eq hK 106 (by omega) kd39_9.2.2.2.2.2.2.2.2.1 (by decide) (fun c43 => ?_) (fun c43 => ?_)
              · refine X_aloadn hK (i := 0) 1 kd39_11.2.1 rfl rfl ?_
                refine X_getK hK fl_X11_10_12 hs_a0 ew0 kd39_11.2.2.1 ?_
                refine X_iconst hK kd39_11.2.2.2.1 ?_
                refine X_puti hK fl_X11_102_10 hs_w0 (by decide) sl_10_1 (by omega) (by omega) kd39_11.2.2.2.2.1 (fun g44 hg44 => ?_)
                refine X_iload hK (i := 6) 0 kd39_11.2.2.2.2.2.1 rfl ?_
                exact hret _ _ _ _ _ _ _ kd39_11.2.2.2.2.2.2.1 ⟨rfl, (-1), rfl, (by omega), (by omega), ((xs_s hg44).trans (by congr 2 <;> omega)), (Or.inr ⟨(fun q9 => by have h8 := k42.mpr (fun i9 q1 q2 => q9.2 i9 q1 (by omega)); omega), by omega, (xs_k hg44 (by decide))⟩)⟩ (Nat.le_refl _) (Nat.le_refl _)
              · refine X_aloadn hK (i := 0) 1 kd39_9.2.2.2.2.2.2.2.2.2.1 rfl rfl ?_
                refine X_getK hK fl_X11_62_12 hs_a0 ech kd39_9.2.2.2.2.2.2.2.2.2.2.1 ?_
                refine X_wt (fun hWb45 => ?_)
                obtain ⟨b45, eb45, hs_b45⟩ : ∃ b9 : Nat, g wg x1.toNat = .ref b9 ∧ S b9 = some (11200, 4) := by have h9 := hWb45 _ _ _ hs_wg x1.toNat (Or.inr (by omega)); rw [sl_11304] at h9; exact h9
                refine X_aloadn hK (i := 0) 1 kd39_9.2.2.2.2.2.2.2.2.2.2.2 rfl rfl ?_
                refine X_getK hK fl_X11_27_12 hs_a0 ect kd39_10.1 ?_
                refine X_iloadn hK (i := 1) 2 kd39_10.2.1 rfl rfl ?_
                refine X_iloadn hK (i := 2) 3 kd39_10.2.2.1 rfl rfl ?_
                refine X_aloadn hK (i := 0) 1 kd39_10.2.2.2.1 rfl rfl ?_
                refine X_getK hK fl_X11_10_12 hs_a0 ew0 kd39_10.2.2.2.2.1 ?_
                refine X_knowr 10500 24 hs_ch (by decide) sl_3_0 (fun b46 eb46 hs_b46 => ?_)
                refine X_knowr 10600 24 hs_ch (by decide) sl_3_1 (fun b47 eb47 hs_b47 => ?_)
                refine X_callV hK [.ref ct, .int (iI x1), .int (iI x2), .ref w0] [] lk_X11_297 (c5_learn _ _ _ _ _ S g ch ct x1 x2 w0 b46 b47 wg wt ld y0 b45 hs_ch hs_ct (by omega) (by omega) hs_w0 eb46 hs_b46 eb47 hs_b47 ewg hs_wg ewt hs_wt eld hs_ld ey0 hs_y0 eb45 hs_b45) hs_ch ⟨by decide, rfl⟩ kd39_10.2.2.2.2.2.1 rfl rfl (by simp [Value.category]) (by decide) (by decide) (by decide) (by decide) (fun r48 S50 g49 pr48 qr48 hg49 => ?_)
                obtain ⟨rfl, rfl, k51⟩ := pr48
                refine X_st [] rfl ?_
                obtain ⟨z52, lz52, uz52, ez52, nz52⟩ := k51
                refine X_aloadn hK (i := 0) 1 kd39_10.2.2.2.2.2.2.1 rfl rfl ?_
                refine X_getK hK fl_X11_62_12 hs_a0 ((hg49 a0 12 0 8 hs_a0 (by decide)).trans ech) kd39_10.2.2.2.2.2.2.2.1 ?_
                refine X_iloadn hK (i := 3) 4 kd39_10.2.2.2.2.2.2.2.2.1 rfl rfl ?_
                refine X_iload hK (i := 4) 5 kd39_10.2.2.2.2.2.2.2.2.2.1 rfl ?_
                refine X_iload hK (i := 5) 6 kd39_10.2.2.2.2.2.2.2.2.2.2.1 rfl ?_
                refine X_callV hK [.int (iI x3), .int (iI x4), .int (iI x5)] [] lk_X11_300 (c5_choose _ _ _ _ _ S g49 ch x3 x4 x5 b46 b47 z52 hs_ch (by omega) (by omega) (by omega) ((hg49 ch 3 0 0 hs_ch (by decide)).trans eb46) hs_b46 ((hg49 ch 3 0 1 hs_ch (by decide)).trans eb47) hs_b47 (by omega) ez52) hs_ch ⟨by decide, rfl⟩ kd39_10.2.2.2.2.2.2.2.2.2.2.2 rfl rfl (by simp [Value.category]) (by decide) (by decide) (by decide) (by decide) (fun r53 S55 g54 pr53 qr53 hg54 => ?_)
                obtain ⟨rfl, z56, rfl, lz56, uz56, k57, k58⟩ := pr53
                refine X_st [.int (iI z56)] rfl ?_
                refine X_istore hK (i := 6) [(6, .int (iI z56)), (0, .ref a0), (1, .int (iI x1)), (2, .int (iI x2)), (3, .int (iI x3)), (4, .int (iI x4)), (5, .int (iI x5))] kd39_11.1 (by decide) rfl ?_
                refine X_aloadn hK (i := 0) 1 kd39_11.2.1 rfl rfl ?_
                refine X_getK hK fl_X11_10_12 hs_a0 ((hg54 a0 12 0 0 hs_a0 (by decide)).trans ((hg49 a0 12 0 0 hs_a0 (by decide)).trans ew0)) kd39_11.2.2.1 ?_
                refine X_iconst hK kd39_11.2.2.2.1 ?_
                refine X_puti hK fl_X11_102_10 hs_w0 (by decide) sl_10_1 (by omega) (by omega) kd39_11.2.2.2.2.1 (fun g59 hg59 => ?_)
                refine X_iload hK (i := 6) 0 kd39_11.2.2.2.2.2.1 rfl ?_
                exact hret _ _ _ _ _ _ _ kd39_11.2.2.2.2.2.2.1 ⟨rfl, z56, rfl, (by omega), (by omega), ((xs_s hg59).trans (by congr 2 <;> omega)), (Or.inl ⟨⟨⟨by omega, by omega, by omega, by omega, by omega, by omega, by omega, by omega, by omega, by omega, by omega⟩, fun i9 q1 q2 => k42.mp (by omega) i9 q1 (by omega)⟩, k57.trans (by rw [xLn.ff nz52, xrw_of eb45]), ((xs_k hg59 (by decide)).trans k58).trans (by rw [xLn.ff nz52, xrw_of eb45])⟩)⟩ (Nat.le_refl _) (Nat.le_refl _)

set_option maxHeartbeats 4000000 in
set_option maxRecDepth 100000 in
theorem c5_mbest (l : Launch) (D : va_G) (kA : Nat → ClassId) (b0 : Nat) (t0 : Nat → Nat) (S : xT) (g : xG) (a0 : Nat) (x1 : Int) (x2 : Int) (x3 : Int) (x4 : Int) (x5 : Int) (n0 : Int) (y0 : Nat) (mw : Nat) (wt : Nat) (ld : Nat) (hs_a0 : S a0 = some (13, 0)) (hx1 : (-2147483648) ≤ x1 ∧ x1 ≤ 2147483647) (hx2 : (-2147483648) ≤ x2 ∧ x2 ≤ 2147483647) (hx3 : (-2147483648) ≤ x3 ∧ x3 ≤ 2147483647) (hx4 : (-2147483648) ≤ x4 ∧ x4 ≤ 2147483647) (hx5 : (-2147483648) ≤ x5 ∧ x5 ≤ 2147483647) (hn0 : 0 ≤ n0 ∧ n0 ≤ 420) (en0 : g a0 2 = .int (iI n0)) (ey0 : g a0 1 = .ref y0) (hs_y0 : S y0 = some (14100, 420)) (emw : g a0 12 = .ref mw) (hs_mw : S mw = some (14900, 40)) (ewt : g a0 13 = .ref wt) (hs_wt : S wt = some (15000, 4)) (eld : g a0 14 = .ref ld) (hs_ld : S ld = some (15100, 6)) : xMt l yX12_best cX12_best 19 (some .int) 1 0 0 24 D kA b0 t0 [(13, 0), (13, 2), (13, 70)] [.ref a0, .int (iI x1), .int (iI x2), .int (iI x3), .int (iI x4), .int (iI x5)] S g (fun (r : Option Value) (S1 : xT) (g1 : xG) => S = S1 ∧ ∃ z : Int, r = some (.int (iI z)) ∧ (-1) ≤ z ∧ z ≤ 400 ∧ (g1 a0 2 = .int (iI (0))) ∧ (xBe (xv g mw (4 * x1 + x2)) (xv g wt) (xv g ld) (xv g y0) x1 x2 x3 x4 x5 n0 z (g a0 70) (g1 a0 70))) := by
  refine xEnterI (by decide) (by simp [lg_sl, Value.category]) [(0, .ref a0), (1, .int (iI x1)), (2, .int (iI x2)), (3, .int (iI x3)), (4, .int (iI x4)), (5, .int (iI x5))] rfl ?_
  intro K E hK hret _ _ _
  refine X_aloadn hK (i := 0) 0 kd28_27.2.2.2.2.2.2.2.2.2.2.2 rfl rfl ?_
  refine X_iconst hK kd28_28.1 ?_
  refine X_puti hK fl_X12_198_13 hs_a0 (by decide) sl_13_0 (by omega) (by omega) kd28_28.2.1 (fun g1 hg1 => ?_)
  refine X_aloadn hK (i := 0) 0 kd28_28.2.2.1 rfl rfl ?_
  refine X_callV hK [] [] lk_X12_222 (c_X12_take _ _ _ _ _ S g1 a0 n0 hs_a0 (by omega) ((xs_k hg1 (by decide)).trans en0)) hs_a0 ⟨by decide, rfl⟩ kd28_28.2.2.2.1 rfl rfl (by simp [Value.category]) (by decide) (by decide) (by decide) (by decide) (fun r2 S4 g3 pr2 qr2 hg3 => ?_)
  obtain ⟨rfl, z5, rfl, lz5, uz5, k6, k7⟩ := pr2
  refine X_st [.int (iI z5)] rfl ?_
  refine X_istore hK (i := 6) [(6, .int (iI z5)), (0, .ref a0), (1, .int (iI x1)), (2, .int (iI x2)), (3, .int (iI x3)), (4, .int (iI x4)), (5, .int (iI x5))] kd28_28.2.2.2.2.1 (by decide) rfl ?_
  refine X_iload hK (i := 6) 0 kd28_28.2.2.2.2.2.1 rfl ?_
  refine X_bipush hK kd28_28.2.2.2.2.2.2.1 (by decide) ?_
  refine X_icmp_ne hK 66 (by omega) (by omega) kd28_28.2.2.2.2.2.2.2.1 (by decide) (fun c8 => ?_) (fun c8 => ?_)
  · refine X_iconst hK kd28_30.2.2.2.2.2.1 ?_
    exact hret _ _ _ _ _ _ _ kd28_30.2.2.2.2.2.2.1 ⟨rfl, (-1), rfl, (by omega), (by omega), (k7.trans (by congr 2 <;> omega)), (Or.inr ⟨(fun q9 => by have h8 := q9.1; omega), by omega, ((hg3 a0 13 0 70 hs_a0 (by decide)).trans (xs_k hg1 (by decide)))⟩)⟩ (Nat.le_refl _) (Nat.le_refl _)
  · refine X_iloadn hK (i := 1) 2 kd28_28.2.2.2.2.2.2.2.2.1 rfl rfl ?_
    refine X_callS hK [.int (iI x1)] [] lk_X12_219 (c_X12_isCorner _ _ _ _ _ S g3 x1 (by omega)) kd28_28.2.2.2.2.2.2.2.2.2.1 rfl rfl (by simp [Value.category]) (by decide) (by decide) (by decide) (by decide) (fun r9 S11 g10 pr9 qr9 hg10 => ?_)
    obtain ⟨rfl, rfl, z12, rfl, lz12, uz12, k13⟩ := pr9
    refine X_st [.int (iI z12)] rfl ?_
    refine X_if_eq hK 66 (by omega) kd28_28.2.2.2.2.2.2.2.2.2.2.1 (by decide) (fun c14 => ?_) (fun c14 => ?_)
    · refine X_iconst hK kd28_30.2.2.2.2.2.1 ?_
      exact hret _ _ _ _ _ _ _ kd28_30.2.2.2.2.2.2.1 ⟨rfl, (-1), rfl, (by omega), (by omega), (k7.trans (by congr 2 <;> omega)), (Or.inr ⟨(fun q9 => by have h8 := q9.1; omega), by omega, ((hg3 a0 13 0 70 hs_a0 (by decide)).trans (xs_k hg1 (by decide)))⟩)⟩ (Nat.le_refl _) (Nat.le_refl _)
    · refine X_iloadn hK (i := 2) 3 kd28_28.2.2.2.2.2.2.2.2.2.2.2 rfl rfl ?_
      refine X_callS hK [.int (iI x2)] [] lk_X12_236 (c_X12_isPaper _ _ _ _ _ S g3 x2 (by omega)) kd28_29.1 rfl rfl (by simp [Value.category]) (by decide) (by decide) (by decide) (by decide) (fun r15 S17 g16 pr15 qr15 hg16 => ?_)
      obtain ⟨rfl, rfl, z18, rfl, lz18, uz18, k19⟩ := pr15
      refine X_st [.int (iI z18)] rfl ?_
      refine X_if_eq hK 66 (by omega) kd28_29.2.1 (by decide) (fun c20 => ?_) (fun c20 => ?_)
      · refine X_iconst hK kd28_30.2.2.2.2.2.1 ?_
        exact hret _ _ _ _ _ _ _ kd28_30.2.2.2.2.2.2.1 ⟨rfl, (-1), rfl, (by omega), (by omega), (k7.trans (by congr 2 <;> omega)), (Or.inr ⟨(fun q9 => by have h8 := q9.1; omega), by omega, ((hg3 a0 13 0 70 hs_a0 (by decide)).trans (xs_k hg1 (by decide)))⟩)⟩ (Nat.le_refl _) (Nat.le_refl _)
      · refine X_iloadn hK (i := 3) 4 kd28_29.2.2.1 rfl rfl ?_
        refine X_iconst hK kd28_29.2.2.2.1 ?_
        refine X_sipush hK kd28_29.2.2.2.2.1 (by decide) ?_
        refine X_callS hK [.int (iI x3), .int (iI 0), .int (iI 1000)] [] lk_X12_211 (c_X12_isIn _ _ _ _ _ S g3 x3 0 1000 (by omega) (by omega) (by omega)) kd28_29.2.2.2.2.2.1 rfl rfl (by simp [Value.category]) (by decide) (by decide) (by decide) (by decide) (fun r21 S23 g22 pr21 qr21 hg22 => ?_)
        obtain ⟨rfl, rfl, z24, rfl, lz24, uz24, k25⟩ := pr21
        refine X_st [.int (iI z24)] rfl ?_
        refine X_if_eq hK 66 (by omega) kd28_29.2.2.2.2.2.2.1 (by decide) (fun c26 => ?_) (fun c26 => ?_)
        · refine X_iconst hK kd28_30.2.2.2.2.2.1 ?_
          exact hret _ _ _ _ _ _ _ kd28_30.2.2.2.2.2.2.1 ⟨rfl, (-1), rfl, (by omega), (by omega), (k7.trans (by congr 2 <;> omega)), (Or.inr ⟨(fun q9 => by have h8 := q9.1; omega), by omega, ((hg3 a0 13 0 70 hs_a0 (by decide)).trans (xs_k hg1 (by decide)))⟩)⟩ (Nat.le_refl _) (Nat.le_refl _)
        · refine X_iload hK (i := 4) 5 kd28_29.2.2.2.2.2.2.2.1 rfl ?_
          refine X_iconst hK kd28_29.2.2.2.2.2.2.2.2.1 ?_
          refine X_sipush hK kd28_29.2.2.2.2.2.2.2.2.2.1 (by decide) ?_
          refine X_callS hK [.int (iI x4), .int (iI 0), .int (iI 1000)] [] lk_X12_211 (c_X12_isIn _ _ _ _ _ S g3 x4 0 1000 (by omega) (by omega) (by omega)) kd28_29.2.2.2.2.2.2.2.2.2.2.1 rfl rfl (by simp [Value.category]) (by decide) (by decide) (by decide) (by decide) (fun r27 S29 g28 pr27 qr27 hg28 => ?_)
          obtain ⟨rfl, rfl, z30, rfl, lz30, uz30, k31⟩ := pr27
          refine X_st [.int (iI z30)] rfl ?_
          refine X_if_eq hK 66 (by omega) kd28_29.2.2.2.2.2.2.2.2.2.2.2 (by decide) (fun c32 => ?_) (fun c32 => ?_)
          · refine X_iconst hK kd28_30.2.2.2.2.2.1 ?_
            exact hret _ _ _ _ _ _ _ kd28_30.2.2.2.2.2.2.1 ⟨rfl, (-1), rfl, (by omega), (by omega), (k7.trans (by congr 2 <;> omega)), (Or.inr ⟨(fun q9 => by have h8 := q9.1; omega), by omega, ((hg3 a0 13 0 70 hs_a0 (by decide)).trans (xs_k hg1 (by decide)))⟩)⟩ (Nat.le_refl _) (Nat.le_refl _)
          · refine X_iload hK (i := 5) 6 kd28_30.1 rfl ?_
            refine X_iconst hK kd28_30.2.1 ?_
            refine X_bipush hK kd28_30.2.2.1 (by decide) ?_
            refine X_callS hK [.int (iI x5), .int (iI 0), .int (iI 100)] [] lk_X12_211 (c_X12_isIn _ _ _ _ _ S g3 x5 0 100 (by omega) (by omega) (by omega)) kd28_30.2.2.2.1 rfl rfl (by simp [Value.category]) (by decide) (by decide) (by decide) (by decide) (fun r33 S35 g34 pr33 qr33 hg34 => ?_)
            obtain ⟨rfl, rfl, z36, rfl, lz36, uz36, k37⟩ := pr33
            refine X_st [.int (iI z36)] rfl ?_
            refine X_if_ne hK 68 (by omega) kd28_30.2.2.2.2.1 (by decide) (fun c38 => ?_) (fun c38 => ?_)
            · refine X_iconst hK kd28_30.2.2.2.2.2.2.2.1 ?_
              refine X_istore hK (i := 7) [(7, .int (iI 0)), (6, .int (iI z5)), (0, .ref a0), (1, .int (iI x1)), (2, .int (iI x2)), (3, .int (iI x3)), (4, .int (iI x4)), (5, .int (iI x5))] kd28_30.2.2.2.2.2.2.2.2.1 (by decide) rfl ?_
              have P46443 : ∀ (nP46443 : Nat) (z37163 : Int) (_ : 0 ≤ z37163) (_ : z37163 ≤ 10) (_ : xNa (xv g3 y0) z37163 20) (_ : 26 - z37163 < (nP46443 : Int)), X K E 71 [(7, .int (iI z37163)), (6, .int (iI z5)), (0, .ref a0), (1, .int (iI x1)), (2, .int (iI x2)), (3, .int (iI x3)), (4, .int (iI x4)), (5, .int (iI x5))] [] S g3 0 0 := by
                intro nP46443
                induction nP46443 with
                | zero => intro z37163 lz37163 uz37163 v46444 mP46443; exact False.elim (by omega)
                | succ nP46443 ihP46443 =>
                  intro z37163 lz37163 uz37163 v46444 mP46443
                  refine X_iload hK (i := 7) 0 kd28_30.2.2.2.2.2.2.2.2.2.1 rfl ?_
                  refine X_iload hK (i := 6) 1 kd28_30.2.2.2.2.2.2.2.2.2.2.1 rfl ?_
                  refine X_icmp_ge hK 98 (by omega) (by omega) kd28_30.2.2.2.2.2.2.2.2.2.2.2 (by decide) (fun c46445 => ?_) (fun c46445 => ?_)
                  · refine X_iconst hK kd28_31.2.2.2.2.2.2.2.2.2.2.1 ?_
                    refine X_istore hK (i := 7) [(7, .int (iI 0)), (6, .int (iI z5)), (0, .ref a0), (1, .int (iI x1)), (2, .int (iI x2)), (3, .int (iI x3)), (4, .int (iI x4)), (5, .int (iI x5))] kd28_31.2.2.2.2.2.2.2.2.2.2.2 (by decide) rfl ?_
                    refine X_lconstE hK (a := 0) (by decide +kernel) kd28_32.1 ?_
                    refine X_lstore hK (i := 8) [(8, .long (iL 0)), (7, .int (iI 0)), (6, .int (iI z5)), (0, .ref a0), (1, .int (iI x1)), (2, .int (iI x2)), (3, .int (iI x3)), (4, .int (iI x4)), (5, .int (iI x5))] kd28_32.2.1 (by decide) rfl ?_
                    refine X_iconst hK kd28_32.2.2.1 ?_
                    refine X_istore hK (i := 10) [(10, .int (iI 0)), (8, .long (iL 0)), (7, .int (iI 0)), (6, .int (iI z5)), (0, .ref a0), (1, .int (iI x1)), (2, .int (iI x2)), (3, .int (iI x3)), (4, .int (iI x4)), (5, .int (iI x5))] kd28_32.2.2.2.1 (by decide) rfl ?_
                    have P55409 : ∀ (nP55409 : Nat) (z53913 : Int) (_ : 0 ≤ z53913) (_ : z53913 ≤ 401) (y53914 : Int64) (z53915 : Int) (_ : 0 ≤ z53915) (_ : z53915 ≤ 400) (_ : (z53913 = 0 ∧ z53915 = 0) ∨ (1 ≤ z53913 ∧ z53915 = (xch (xG2 (xA (xv g mw (4 * x1 + x2)) (xv g wt) (xv g ld)) (xT6 (xv g y0)) x3 x4 x5) (z53913 - 1).toNat).1 ∧ y53914 = (xch (xG2 (xA (xv g mw (4 * x1 + x2)) (xv g wt) (xv g ld)) (xT6 (xv g y0)) x3 x4 x5) (z53913 - 1).toNat).2)) (_ : 417 - z53913 < (nP55409 : Int)), X K E 107 [(10, .int (iI z53913)), (8, .long y53914), (7, .int (iI z53915)), (6, .int (iI z5)), (0, .ref a0), (1, .int (iI x1)), (2, .int (iI x2)), (3, .int (iI x3)), (4, .int (iI x4)), (5, .int (iI x5))] [] S g3 0 0 := by
                      intro nP55409
                      induction nP55409 with
                      | zero => intro z53913 lz53913 uz53913 y53914 z53915 lz53915 uz53915 v55410 mP55409; exact False.elim (by omega)
                      | succ nP55409 ihP55409 =>
                        intro z53913 lz53913 uz53913 y53914 z53915 lz53915 uz53915 v55410 mP55409
                        refine X_iload hK (i := 10) 0 kd28_32.2.2.2.2.1 rfl ?_
                        refine X_sipush hK kd28_32.2.2.2.2.2.1 (by decide) ?_
                        refine X_icmp_gt hK 269 (by omega) (by omega) kd28_32.2.2.2.2.2.2.1 (by decide) (fun c55411 => ?_) (fun c55411 => ?_)
                        · refine X_aloadn hK (i := 0) 4 kd28_39.2.2.2.2.2.2.2.2.1 rfl rfl ?_
                          refine X_lload hK (i := 8) 1 kd28_39.2.2.2.2.2.2.2.2.2.1 rfl ?_
                          refine X_putl hK fl_X12_434_13 hs_a0 (by decide) sl_13_70 kd28_39.2.2.2.2.2.2.2.2.2.2.1 (fun g55412 hg55412 => ?_)
                          refine X_iload hK (i := 7) 2 kd28_39.2.2.2.2.2.2.2.2.2.2.2 rfl ?_
                          exact hret _ _ _ _ _ _ _ kd28_40.1 ⟨rfl, z53915, rfl, (by omega), (by omega), (((xs_k hg55412 (by decide)).trans k7).trans (by congr 2 <;> omega)), (Or.inl ⟨⟨⟨by omega, by omega, by omega, by omega, by omega, by omega, by omega, by omega, by omega, by omega, by omega⟩, (fun i9 q1 q2 => (by rw [← (Eq.trans (xv_m hg3 hs_y0 (by decide) (by decide)) (xv_a hg1 (xne hs_y0 hs_a0 (by decide))))]; exact v46444 i9 q1 (by omega)))⟩, xbest_f1 v55410 (by omega), (xs_s hg55412).trans (congrArg Value.long (xbest_f2 v55410 (by omega)))⟩)⟩ (Nat.le_refl _) (Nat.le_refl _)
                        · refine X_lconstE hK (a := 0) (by decide +kernel) kd28_32.2.2.2.2.2.2.2.1 ?_
                          refine X_lstore hK (i := 11) [(11, .long (iL 0)), (10, .int (iI z53913)), (8, .long y53914), (7, .int (iI z53915)), (6, .int (iI z5)), (0, .ref a0), (1, .int (iI x1)), (2, .int (iI x2)), (3, .int (iI x3)), (4, .int (iI x4)), (5, .int (iI x5))] kd28_32.2.2.2.2.2.2.2.2.1 (by decide) rfl ?_
                          refine X_iconst hK kd28_32.2.2.2.2.2.2.2.2.2.1 ?_
                          refine X_istore hK (i := 13) [(13, .int (iI 0)), (11, .long (iL 0)), (10, .int (iI z53913)), (8, .long y53914), (7, .int (iI z53915)), (6, .int (iI z5)), (0, .ref a0), (1, .int (iI x1)), (2, .int (iI x2)), (3, .int (iI x3)), (4, .int (iI x4)), (5, .int (iI x5))] kd28_32.2.2.2.2.2.2.2.2.2.2.1 (by decide) rfl ?_
                          have P56832 : ∀ (nP56832 : Nat) (z56595 : Int) (_ : 0 ≤ z56595) (_ : z56595 ≤ 4) (y56596 : Int64) (_ : y56596 = iL (xsum (fun j => xgn z53913 x3 x4 x5 (xA (xv g mw (4 * x1 + x2)) (xv g wt) (xv g ld) j) * xT6 (xv g y0) j) (6 * z56595).toNat)) (_ : 20 - z56595 < (nP56832 : Int)), X K E 121 [(13, .int (iI z56595)), (11, .long y56596), (10, .int (iI z53913)), (8, .long y53914), (7, .int (iI z53915)), (6, .int (iI z5)), (0, .ref a0), (1, .int (iI x1)), (2, .int (iI x2)), (3, .int (iI x3)), (4, .int (iI x4)), (5, .int (iI x5))] [] S g3 0 0 := by
                            intro nP56832
                            induction nP56832 with
                            | zero => intro z56595 lz56595 uz56595 y56596 v56833 mP56832; exact False.elim (by omega)
                            | succ nP56832 ihP56832 =>
                              intro z56595 lz56595 uz56595 y56596 v56833 mP56832
                              refine X_iload hK (i := 13) 0 kd28_32.2.2.2.2.2.2.2.2.2.2.2 rfl ?_
                              refine X_iconst hK kd28_33.1 ?_
                              refine X_icmp_ge hK 239 (by omega) (by omega) kd28_33.2.1 (by decide) (fun c56834 => ?_) (fun c56834 => ?_)
                              · refine X_iload hK (i := 10) 2 kd28_38.2.2.2.2.2.2.2.1 rfl ?_
                                refine X_if_le hK 255 (by omega) kd28_38.2.2.2.2.2.2.2.2.1 (by decide) (fun c56835 => ?_) (fun c56835 => ?_)
                                · refine X_lload hK (i := 11) 1 kd28_39.2.2.1 rfl ?_
                                  refine X_lstore hK (i := 8) [(8, .long y56596), (13, .int (iI z56595)), (11, .long y56596), (10, .int (iI z53913)), (7, .int (iI z53915)), (6, .int (iI z5)), (0, .ref a0), (1, .int (iI x1)), (2, .int (iI x2)), (3, .int (iI x3)), (4, .int (iI x4)), (5, .int (iI x5))] kd28_39.2.2.2.1 (by decide) rfl ?_
                                  refine X_iload hK (i := 10) 3 kd28_39.2.2.2.2.1 rfl ?_
                                  refine X_istore hK (i := 7) [(7, .int (iI z53913)), (8, .long y56596), (13, .int (iI z56595)), (11, .long y56596), (10, .int (iI z53913)), (6, .int (iI z5)), (0, .ref a0), (1, .int (iI x1)), (2, .int (iI x2)), (3, .int (iI x3)), (4, .int (iI x4)), (5, .int (iI x5))] kd28_39.2.2.2.2.2.1 (by decide) rfl ?_
                                  refine X_iinc hK (i := 10) (z := z53913) (n := 1) 4 [(10, .int (iI (z53913 + 1))), (7, .int (iI z53913)), (8, .long y56596), (13, .int (iI z56595)), (11, .long y56596), (6, .int (iI z5)), (0, .ref a0), (1, .int (iI x1)), (2, .int (iI x2)), (3, .int (iI x3)), (4, .int (iI x4)), (5, .int (iI x5))] kd28_39.2.2.2.2.2.2.1 rfl (by decide) rfl ?_
                                  refine X_goto hK 107 kd28_39.2.2.2.2.2.2.2.1 (by decide) ?_
                                  refine X_lv [(10, .int (iI (z53913 + 1))), (8, .long y56596), (7, .int (iI z53913)), (6, .int (iI z5)), (0, .ref a0), (1, .int (iI x1)), (2, .int (iI x2)), (3, .int (iI x3)), (4, .int (iI x4)), (5, .int (iI x5))] [0, 2, 1, 5, 6, 7, 8, 9, 10, 11] rfl ?_
                                  exact ihP55409  (z53913 + 1) (by omega) (by omega) y56596 z53913 (by omega) (by omega) (Or.inr ⟨by omega, xbest_0 (by omega) (xsum_24 v56833 (by omega))⟩) (by omega)
                                · refine X_lload hK (i := 11) 1 kd28_38.2.2.2.2.2.2.2.2.2.1 rfl ?_
                                  refine X_lload hK (i := 8) 3 kd28_38.2.2.2.2.2.2.2.2.2.2.1 rfl ?_
                                  refine X_lcmpE hK kd28_38.2.2.2.2.2.2.2.2.2.2.2 (fun z56836 lz56836 uz56836 ez56836 fz56836 => ?_)
                                  refine X_if_gt hK 255 (by omega) kd28_39.1 (by decide) (fun c56837 => ?_) (fun c56837 => ?_)
                                  · refine X_lload hK (i := 11) 1 kd28_39.2.2.1 rfl ?_
                                    refine X_lstore hK (i := 8) [(8, .long y56596), (13, .int (iI z56595)), (11, .long y56596), (10, .int (iI z53913)), (7, .int (iI z53915)), (6, .int (iI z5)), (0, .ref a0), (1, .int (iI x1)), (2, .int (iI x2)), (3, .int (iI x3)), (4, .int (iI x4)), (5, .int (iI x5))] kd28_39.2.2.2.1 (by decide) rfl ?_
                                    refine X_iload hK (i := 10) 3 kd28_39.2.2.2.2.1 rfl ?_
                                    refine X_istore hK (i := 7) [(7, .int (iI z53913)), (8, .long y56596), (13, .int (iI z56595)), (11, .long y56596), (10, .int (iI z53913)), (6, .int (iI z5)), (0, .ref a0), (1, .int (iI x1)), (2, .int (iI x2)), (3, .int (iI x3)), (4, .int (iI x4)), (5, .int (iI x5))] kd28_39.2.2.2.2.2.1 (by decide) rfl ?_
                                    refine X_iinc hK (i := 10) (z := z53913) (n := 1) 4 [(10, .int (iI (z53913 + 1))), (7, .int (iI z53913)), (8, .long y56596), (13, .int (iI z56595)), (11, .long y56596), (6, .int (iI z5)), (0, .ref a0), (1, .int (iI x1)), (2, .int (iI x2)), (3, .int (iI x3)), (4, .int (iI x4)), (5, .int (iI x5))] kd28_39.2.2.2.2.2.2.1 rfl (by decide) rfl ?_
                                    refine X_goto hK 107 kd28_39.2.2.2.2.2.2.2.1 (by decide) ?_
                                    refine X_lv [(10, .int (iI (z53913 + 1))), (8, .long y56596), (7, .int (iI z53913)), (6, .int (iI z5)), (0, .ref a0), (1, .int (iI x1)), (2, .int (iI x2)), (3, .int (iI x3)), (4, .int (iI x4)), (5, .int (iI x5))] [0, 2, 1, 5, 6, 7, 8, 9, 10, 11] rfl ?_
                                    exact ihP55409  (z53913 + 1) (by omega) (by omega) y56596 z53913 (by omega) (by omega) (Or.inr ⟨by omega, xbest_h (by omega) v55410 (xsum_24 v56833 (by omega)) (fz56836.mp (by omega))⟩) (by omega)
                                  · refine X_goto hK 263 kd28_39.2.1 (by decide) ?_
                                    refine X_iinc hK (i := 10) (z := z53913) (n := 1) 2 [(10, .int (iI (z53913 + 1))), (13, .int (iI z56595)), (11, .long y56596), (8, .long y53914), (7, .int (iI z53915)), (6, .int (iI z5)), (0, .ref a0), (1, .int (iI x1)), (2, .int (iI x2)), (3, .int (iI x3)), (4, .int (iI x4)), (5, .int (iI x5))] kd28_39.2.2.2.2.2.2.1 rfl (by decide) rfl ?_
                                    refine X_goto hK 107 kd28_39.2.2.2.2.2.2.2.1 (by decide) ?_
                                    refine X_lv [(10, .int (iI (z53913 + 1))), (8, .long y53914), (7, .int (iI z53915)), (6, .int (iI z5)), (0, .ref a0), (1, .int (iI x1)), (2, .int (iI x2)), (3, .int (iI x3)), (4, .int (iI x4)), (5, .int (iI x5))] [0, 3, 4, 5, 6, 7, 8, 9, 10, 11] rfl ?_
                                    exact ihP55409  (z53913 + 1) (by omega) (by omega) y53914 z53915 (by omega) (by omega) (Or.inr ⟨by omega, xbest_m (by omega) v55410 (xsum_24 v56833 (by omega)) (fun q9 => by have h8 := fz56836.mpr q9; omega)⟩) (by omega)
                              · refine X_iconst hK kd28_33.2.2.1 ?_
                                refine X_istore hK (i := 14) [(14, .int (iI 0)), (13, .int (iI z56595)), (11, .long y56596), (10, .int (iI z53913)), (8, .long y53914), (7, .int (iI z53915)), (6, .int (iI z5)), (0, .ref a0), (1, .int (iI x1)), (2, .int (iI x2)), (3, .int (iI x3)), (4, .int (iI x4)), (5, .int (iI x5))] kd28_33.2.2.2.1 (by decide) rfl ?_
                                have P57036 : ∀ (nP57036 : Nat) (z57003 : Int) (_ : 0 ≤ z57003) (_ : z57003 ≤ 6) (y57004 : Int64) (_ : y57004 = iL (xsum (fun j => xgn z53913 x3 x4 x5 (xA (xv g mw (4 * x1 + x2)) (xv g wt) (xv g ld) j) * xT6 (xv g y0) j) (6 * z56595 + z57003).toNat)) (_ : 22 - z57003 < (nP57036 : Int)), X K E 130 [(14, .int (iI z57003)), (13, .int (iI z56595)), (11, .long y57004), (10, .int (iI z53913)), (8, .long y53914), (7, .int (iI z53915)), (6, .int (iI z5)), (0, .ref a0), (1, .int (iI x1)), (2, .int (iI x2)), (3, .int (iI x3)), (4, .int (iI x4)), (5, .int (iI x5))] [] S g3 0 0 := by
                                  intro nP57036
                                  induction nP57036 with
                                  | zero => intro z57003 lz57003 uz57003 y57004 v57037 mP57036; exact False.elim (by omega)
                                  | succ nP57036 ihP57036 =>
                                    intro z57003 lz57003 uz57003 y57004 v57037 mP57036
                                    refine X_iload hK (i := 14) 0 kd28_33.2.2.2.2.1 rfl ?_
                                    refine X_bipush hK kd28_33.2.2.2.2.2.1 (by decide) ?_
                                    refine X_icmp_ge hK 233 (by omega) (by omega) kd28_33.2.2.2.2.2.2.1 (by decide) (fun c57038 => ?_) (fun c57038 => ?_)
                                    · refine X_iinc hK (i := 13) (z := z56595) (n := 1) 1 [(13, .int (iI (z56595 + 1))), (14, .int (iI z57003)), (11, .long y57004), (10, .int (iI z53913)), (8, .long y53914), (7, .int (iI z53915)), (6, .int (iI z5)), (0, .ref a0), (1, .int (iI x1)), (2, .int (iI x2)), (3, .int (iI x3)), (4, .int (iI x4)), (5, .int (iI x5))] kd28_38.2.2.2.2.2.1 rfl (by decide) rfl ?_
                                      refine X_goto hK 121 kd28_38.2.2.2.2.2.2.1 (by decide) ?_
                                      refine X_lv [(13, .int (iI (z56595 + 1))), (11, .long y57004), (10, .int (iI z53913)), (8, .long y53914), (7, .int (iI z53915)), (6, .int (iI z5)), (0, .ref a0), (1, .int (iI x1)), (2, .int (iI x2)), (3, .int (iI x3)), (4, .int (iI x4)), (5, .int (iI x5))] [0, 2, 3, 4, 5, 6, 7, 8, 9, 10, 11, 12] rfl ?_
                                      exact ihP56832  (z56595 + 1) (by omega) (by omega) y57004 (xsum_at v57037 (by omega)) (by omega)
                                    · refine X_aloadn hK (i := 0) 7 kd28_33.2.2.2.2.2.2.2.1 rfl rfl ?_
                                      refine X_iloadn hK (i := 1) 8 kd28_33.2.2.2.2.2.2.2.2.1 rfl rfl ?_
                                      refine X_iloadn hK (i := 2) 9 kd28_33.2.2.2.2.2.2.2.2.2.1 rfl rfl ?_
                                      refine X_iload hK (i := 13) 1 kd28_33.2.2.2.2.2.2.2.2.2.2.1 rfl ?_
                                      refine X_iload hK (i := 14) 0 kd28_33.2.2.2.2.2.2.2.2.2.2.2 rfl ?_
                                      refine X_callV hK [.int (iI x1), .int (iI x2), .int (iI z56595), .int (iI z57003)] [] lk_X12_242 (c_X12_askedOf _ _ _ _ _ S g3 a0 x1 x2 z56595 z57003 mw wt ld hs_a0 (by omega) (by omega) (by omega) (by omega) ((hg3 a0 13 0 12 hs_a0 (by decide)).trans ((xs_k hg1 (by decide)).trans emw)) hs_mw ((hg3 a0 13 0 13 hs_a0 (by decide)).trans ((xs_k hg1 (by decide)).trans ewt)) hs_wt ((hg3 a0 13 0 14 hs_a0 (by decide)).trans ((xs_k hg1 (by decide)).trans eld)) hs_ld) hs_a0 ⟨by decide, rfl⟩ kd28_34.1 rfl rfl (by simp [Value.category]) (by decide) (by decide) (by decide) (by decide) (fun r57039 S57041 g57040 pr57039 qr57039 hg57040 => ?_)
                                      obtain ⟨rfl, rfl, z57042, rfl, lz57042, uz57042, k57043⟩ := pr57039
                                      refine X_st [.int (iI z57042)] rfl ?_
                                      have hA57044 : z57042 = xas (xv g mw (4 * x1 + x2)) (xv g wt z56595) (xv g ld z57003) := (by rw [← (Eq.trans (xv_m hg3 hs_mw (by decide) (by decide)) (xv_a hg1 (xne hs_mw hs_a0 (by decide)))), ← (Eq.trans (xv_m hg3 hs_wt (by decide) (by decide)) (xv_a hg1 (xne hs_wt hs_a0 (by decide)))), ← (Eq.trans (xv_m hg3 hs_ld (by decide) (by decide)) (xv_a hg1 (xne hs_ld hs_a0 (by decide))))]; exact k57043)
                                      refine X_istore hK (i := 15) [(15, .int (iI z57042)), (14, .int (iI z57003)), (13, .int (iI z56595)), (11, .long y57004), (10, .int (iI z53913)), (8, .long y53914), (7, .int (iI z53915)), (6, .int (iI z5)), (0, .ref a0), (1, .int (iI x1)), (2, .int (iI x2)), (3, .int (iI x3)), (4, .int (iI x4)), (5, .int (iI x5))] kd28_34.2.1 (by decide) rfl ?_
                                      refine X_iload hK (i := 10) 4 kd28_34.2.2.1 rfl ?_
                                      refine X_iload hK (i := 15) 0 kd28_34.2.2.2.1 rfl ?_
                                      refine X_icmp_ge hK 161 (by omega) (by omega) kd28_34.2.2.2.2.1 (by decide) (fun c57045 => ?_) (fun c57045 => ?_)
                                      · refine X_iload hK (i := 15) 0 kd28_34.2.2.2.2.2.2.2.1 rfl ?_
                                        refine X_istore hK (i := 16) [(16, .int (iI z57042)), (15, .int (iI z57042)), (14, .int (iI z57003)), (13, .int (iI z56595)), (11, .long y57004), (10, .int (iI z53913)), (8, .long y53914), (7, .int (iI z53915)), (6, .int (iI z5)), (0, .ref a0), (1, .int (iI x1)), (2, .int (iI x2)), (3, .int (iI x3)), (4, .int (iI x4)), (5, .int (iI x5))] kd28_34.2.2.2.2.2.2.2.2.1 (by decide) rfl ?_
                                        refine X_iload hK (i := 4) 13 kd28_34.2.2.2.2.2.2.2.2.2.1 rfl ?_
                                        refine X_i2lE hK (by omega) kd28_34.2.2.2.2.2.2.2.2.2.2.1 ?_
                                        refine X_iload hK (i := 16) 0 kd28_34.2.2.2.2.2.2.2.2.2.2.2 rfl ?_
                                        refine X_i2lE hK (by omega) kd28_35.1 ?_
                                        refine X_lmulE hK kd28_35.2.1 ?_
                                        refine X_iload hK (i := 10) 5 kd28_35.2.2.1 rfl ?_
                                        refine X_iloadn hK (i := 3) 12 kd28_35.2.2.2.1 rfl rfl ?_
                                        refine X_callS hK [.int (iI z53913), .int (iI x3)] [.long ((iL x4) * (iL z57042))] lk_X12_399 (c5_cost _ _ _ _ _ S g3 z53913 x3 (by omega) (by omega)) kd28_35.2.2.2.2.1 rfl rfl (by simp [Value.category]) (by decide) (by decide) (by decide) (by decide) (fun r57046 S57048 g57047 pr57046 qr57046 hg57047 => ?_)
                                        obtain ⟨rfl, rfl, z57049, rfl, lz57049, uz57049, k57050⟩ := pr57046
                                        refine X_st [.int (iI z57049), .long ((iL x4) * (iL z57042))] rfl ?_
                                        refine X_i2lE hK (by omega) kd28_35.2.2.2.2.2.1 ?_
                                        refine X_lsubE hK kd28_35.2.2.2.2.2.2.1 ?_
                                        refine X_iload hK (i := 10) 5 kd28_35.2.2.2.2.2.2.2.1 rfl ?_
                                        refine X_iload hK (i := 16) 0 kd28_35.2.2.2.2.2.2.2.2.1 rfl ?_
                                        refine X_isub hK kd28_35.2.2.2.2.2.2.2.2.2.1 ?_
                                        have hr57051 : 0 ≤ (z53913 - z57042) ∧ (z53913 - z57042) ≤ 400 := by omega
                                        refine X_iload hK (i := 5) 14 kd28_35.2.2.2.2.2.2.2.2.2.2.1 rfl ?_
                                        refine X_imul hK kd28_35.2.2.2.2.2.2.2.2.2.2.2 ?_
                                        have hm57052 := xmulB (a := (z53913 - z57042)) (b := x5) (A := 400) (B := 100) (by omega) (by omega) (by omega) (by omega)
                                        refine X_bipush hK kd28_36.1 (by decide) ?_
                                        refine X_idiv hK (by omega) (by omega) kd28_36.2.1 (fun z57053 ez57053 fz57053 => ?_)
                                        have bz57053 : 0 ≤ z57053 ∧ z57053 ≤ 400 := by omega
                                        have hd57054 : z57053 = ((z53913 - z57042) * x5) / 100 := by omega
                                        refine X_iloadn hK (i := 3) 12 kd28_36.2.2.1 rfl rfl ?_
                                        refine X_imul hK kd28_36.2.2.2.1 ?_
                                        have hm57055 := xmulB (a := z57053) (b := x3) (A := 400) (B := 1000) (by omega) (by omega) (by omega) (by omega)
                                        refine X_bipush hK kd28_36.2.2.2.2.1 (by decide) ?_
                                        refine X_idiv hK (by omega) (by omega) kd28_36.2.2.2.2.2.1 (fun z57056 ez57056 fz57056 => ?_)
                                        have bz57056 : 0 ≤ z57056 ∧ z57056 ≤ 4000 := by omega
                                        have hd57057 : z57056 = (z57053 * x3) / 100 := by omega
                                        refine X_i2lE hK (by omega) kd28_36.2.2.2.2.2.2.1 ?_
                                        refine X_laddE hK kd28_36.2.2.2.2.2.2.2.1 ?_
                                        refine X_lstore hK (i := 17) [(17, .long ((((iL x4) * (iL z57042)) - (iL z57049)) + (iL z57056))), (16, .int (iI z57042)), (15, .int (iI z57042)), (14, .int (iI z57003)), (13, .int (iI z56595)), (11, .long y57004), (10, .int (iI z53913)), (8, .long y53914), (7, .int (iI z53915)), (6, .int (iI z5)), (0, .ref a0), (1, .int (iI x1)), (2, .int (iI x2)), (3, .int (iI x3)), (4, .int (iI x4)), (5, .int (iI x5))] kd28_36.2.2.2.2.2.2.2.2.1 (by decide) rfl ?_
                                        refine X_lload hK (i := 11) 5 kd28_36.2.2.2.2.2.2.2.2.2.1 rfl ?_
                                        refine X_lload hK (i := 17) 0 kd28_36.2.2.2.2.2.2.2.2.2.2.1 rfl ?_
                                        refine X_aloadn hK (i := 0) 10 kd28_36.2.2.2.2.2.2.2.2.2.2.2 rfl rfl ?_
                                        refine X_getK hK fl_X12_7_13 hs_a0 ((hg3 a0 13 0 1 hs_a0 (by decide)).trans ((xs_k hg1 (by decide)).trans ey0)) kd28_37.1 ?_
                                        refine X_iload hK (i := 13) 4 kd28_37.2.1 rfl ?_
                                        refine X_iald hK hs_y0 (by decide) sl_14100 (by omega) (by omega) kd28_37.2.2.1 (fun z57058 ez57058 lz57058 uz57058 => ?_)
                                        have hvz57058 := xv_e (j := z56595) ez57058 (by omega)
                                        have hl57059 : xv g y0 z56595 = z57058 := xv_e (j := z56595) (((hg3 _ _ _ _ hs_y0 (by rw [xky_a (by decide)]; decide)).trans (xs_a hg1 (xne hs_y0 hs_a0 (by decide)))).symm.trans ez57058) (by omega)
                                        refine X_i2lE hK (by omega) kd28_37.2.2.2.1 ?_
                                        refine X_lmulE hK kd28_37.2.2.2.2.1 ?_
                                        refine X_aloadn hK (i := 0) 10 kd28_37.2.2.2.2.2.1 rfl rfl ?_
                                        refine X_getK hK fl_X12_7_13 hs_a0 ((hg3 a0 13 0 1 hs_a0 (by decide)).trans ((xs_k hg1 (by decide)).trans ey0)) kd28_37.2.2.2.2.2.2.1 ?_
                                        refine X_iconst hK kd28_37.2.2.2.2.2.2.2.1 ?_
                                        refine X_iload hK (i := 14) 3 kd28_37.2.2.2.2.2.2.2.2.1 rfl ?_
                                        refine X_iadd hK kd28_37.2.2.2.2.2.2.2.2.2.1 ?_
                                        refine X_iald hK hs_y0 (by decide) sl_14100 (by omega) (by omega) kd28_37.2.2.2.2.2.2.2.2.2.2.1 (fun z57060 ez57060 lz57060 uz57060 => ?_)
                                        have hvz57060 := xv_e (j := (4 + z57003)) ez57060 (by omega)
                                        have hl57061 : xv g y0 (4 + z57003) = z57060 := xv_e (j := (4 + z57003)) (((hg3 _ _ _ _ hs_y0 (by rw [xky_a (by decide)]; decide)).trans (xs_a hg1 (xne hs_y0 hs_a0 (by decide)))).symm.trans ez57060) (by omega)
                                        refine X_i2lE hK (by omega) kd28_37.2.2.2.2.2.2.2.2.2.2.2 ?_
                                        refine X_lmulE hK kd28_38.1 ?_
                                        refine X_laddE hK kd28_38.2.1 ?_
                                        refine X_lstore hK (i := 11) [(11, .long (y57004 + ((((((iL x4) * (iL z57042)) - (iL z57049)) + (iL z57056)) * (iL z57058)) * (iL z57060)))), (17, .long ((((iL x4) * (iL z57042)) - (iL z57049)) + (iL z57056))), (16, .int (iI z57042)), (15, .int (iI z57042)), (14, .int (iI z57003)), (13, .int (iI z56595)), (10, .int (iI z53913)), (8, .long y53914), (7, .int (iI z53915)), (6, .int (iI z5)), (0, .ref a0), (1, .int (iI x1)), (2, .int (iI x2)), (3, .int (iI x3)), (4, .int (iI x4)), (5, .int (iI x5))] kd28_38.2.2.1 (by decide) rfl ?_
                                        refine X_iinc hK (i := 14) (z := z57003) (n := 1) 4 [(14, .int (iI (z57003 + 1))), (11, .long (y57004 + ((((((iL x4) * (iL z57042)) - (iL z57049)) + (iL z57056)) * (iL z57058)) * (iL z57060)))), (17, .long ((((iL x4) * (iL z57042)) - (iL z57049)) + (iL z57056))), (16, .int (iI z57042)), (15, .int (iI z57042)), (13, .int (iI z56595)), (10, .int (iI z53913)), (8, .long y53914), (7, .int (iI z53915)), (6, .int (iI z5)), (0, .ref a0), (1, .int (iI x1)), (2, .int (iI x2)), (3, .int (iI x3)), (4, .int (iI x4)), (5, .int (iI x5))] kd28_38.2.2.2.1 rfl (by decide) rfl ?_
                                        refine X_goto hK 130 kd28_38.2.2.2.2.1 (by decide) ?_
                                        refine X_lv [(14, .int (iI (z57003 + 1))), (13, .int (iI z56595)), (11, .long (y57004 + ((((((iL x4) * (iL z57042)) - (iL z57049)) + (iL z57056)) * (iL z57058)) * (iL z57060)))), (10, .int (iI z53913)), (8, .long y53914), (7, .int (iI z53915)), (6, .int (iI z5)), (0, .ref a0), (1, .int (iI x1)), (2, .int (iI x2)), (3, .int (iI x3)), (4, .int (iI x4)), (5, .int (iI x5))] [0, 5, 1, 6, 7, 8, 9, 10, 11, 12, 13, 14, 15] rfl ?_
                                        exact ihP57036  (z57003 + 1) (by omega) (by omega) (y57004 + ((((((iL x4) * (iL z57042)) - (iL z57049)) + (iL z57056)) * (iL z57058)) * (iL z57060))) (xsum_at (xbest_s (a := z57042) (t1 := z57058) (t2 := z57060) v57037 (by omega) (by omega) (by rw [xA_j (by omega)]; exact hA57044.symm) (by rw [xT_j (by omega), hl57059, hl57061]) (by omega) k57050 hd57054 hd57057 rfl) (by omega)) (by omega)
                                      · refine X_iload hK (i := 10) 4 kd28_34.2.2.2.2.2.1 rfl ?_
                                        refine X_goto hK 163 kd28_34.2.2.2.2.2.2.1 (by decide) ?_
                                        refine X_istore hK (i := 16) [(16, .int (iI z53913)), (15, .int (iI z57042)), (14, .int (iI z57003)), (13, .int (iI z56595)), (11, .long y57004), (10, .int (iI z53913)), (8, .long y53914), (7, .int (iI z53915)), (6, .int (iI z5)), (0, .ref a0), (1, .int (iI x1)), (2, .int (iI x2)), (3, .int (iI x3)), (4, .int (iI x4)), (5, .int (iI x5))] kd28_34.2.2.2.2.2.2.2.2.1 (by decide) rfl ?_
                                        refine X_iload hK (i := 4) 13 kd28_34.2.2.2.2.2.2.2.2.2.1 rfl ?_
                                        refine X_i2lE hK (by omega) kd28_34.2.2.2.2.2.2.2.2.2.2.1 ?_
                                        refine X_iload hK (i := 16) 0 kd28_34.2.2.2.2.2.2.2.2.2.2.2 rfl ?_
                                        refine X_i2lE hK (by omega) kd28_35.1 ?_
                                        refine X_lmulE hK kd28_35.2.1 ?_
                                        refine X_iload hK (i := 10) 5 kd28_35.2.2.1 rfl ?_
                                        refine X_iloadn hK (i := 3) 12 kd28_35.2.2.2.1 rfl rfl ?_
                                        refine X_callS hK [.int (iI z53913), .int (iI x3)] [.long ((iL x4) * (iL z53913))] lk_X12_399 (c5_cost _ _ _ _ _ S g3 z53913 x3 (by omega) (by omega)) kd28_35.2.2.2.2.1 rfl rfl (by simp [Value.category]) (by decide) (by decide) (by decide) (by decide) (fun r57062 S57064 g57063 pr57062 qr57062 hg57063 => ?_)
                                        obtain ⟨rfl, rfl, z57065, rfl, lz57065, uz57065, k57066⟩ := pr57062
                                        refine X_st [.int (iI z57065), .long ((iL x4) * (iL z53913))] rfl ?_
                                        refine X_i2lE hK (by omega) kd28_35.2.2.2.2.2.1 ?_
                                        refine X_lsubE hK kd28_35.2.2.2.2.2.2.1 ?_
                                        refine X_iload hK (i := 10) 5 kd28_35.2.2.2.2.2.2.2.1 rfl ?_
                                        refine X_iload hK (i := 16) 0 kd28_35.2.2.2.2.2.2.2.2.1 rfl ?_
                                        refine X_isub hK kd28_35.2.2.2.2.2.2.2.2.2.1 ?_
                                        have hr57067 : 0 ≤ (z53913 - z53913) ∧ (z53913 - z53913) ≤ 400 := by omega
                                        refine X_iload hK (i := 5) 14 kd28_35.2.2.2.2.2.2.2.2.2.2.1 rfl ?_
                                        refine X_imul hK kd28_35.2.2.2.2.2.2.2.2.2.2.2 ?_
                                        have hm57068 := xmulB (a := (z53913 - z53913)) (b := x5) (A := 400) (B := 100) (by omega) (by omega) (by omega) (by omega)
                                        refine X_bipush hK kd28_36.1 (by decide) ?_
                                        refine X_idiv hK (by omega) (by omega) kd28_36.2.1 (fun z57069 ez57069 fz57069 => ?_)
                                        have bz57069 : 0 ≤ z57069 ∧ z57069 ≤ 400 := by omega
                                        have hd57070 : z57069 = ((z53913 - z53913) * x5) / 100 := by omega
                                        refine X_iloadn hK (i := 3) 12 kd28_36.2.2.1 rfl rfl ?_
                                        refine X_imul hK kd28_36.2.2.2.1 ?_
                                        have hm57071 := xmulB (a := z57069) (b := x3) (A := 400) (B := 1000) (by omega) (by omega) (by omega) (by omega)
                                        refine X_bipush hK kd28_36.2.2.2.2.1 (by decide) ?_
                                        refine X_idiv hK (by omega) (by omega) kd28_36.2.2.2.2.2.1 (fun z57072 ez57072 fz57072 => ?_)
                                        have bz57072 : 0 ≤ z57072 ∧ z57072 ≤ 4000 := by omega
                                        have hd57073 : z57072 = (z57069 * x3) / 100 := by omega
                                        refine X_i2lE hK (by omega) kd28_36.2.2.2.2.2.2.1 ?_
                                        refine X_laddE hK kd28_36.2.2.2.2.2.2.2.1 ?_
                                        refine X_lstore hK (i := 17) [(17, .long ((((iL x4) * (iL z53913)) - (iL z57065)) + (iL z57072))), (16, .int (iI z53913)), (15, .int (iI z57042)), (14, .int (iI z57003)), (13, .int (iI z56595)), (11, .long y57004), (10, .int (iI z53913)), (8, .long y53914), (7, .int (iI z53915)), (6, .int (iI z5)), (0, .ref a0), (1, .int (iI x1)), (2, .int (iI x2)), (3, .int (iI x3)), (4, .int (iI x4)), (5, .int (iI x5))] kd28_36.2.2.2.2.2.2.2.2.1 (by decide) rfl ?_
                                        refine X_lload hK (i := 11) 5 kd28_36.2.2.2.2.2.2.2.2.2.1 rfl ?_
                                        refine X_lload hK (i := 17) 0 kd28_36.2.2.2.2.2.2.2.2.2.2.1 rfl ?_
                                        refine X_aloadn hK (i := 0) 10 kd28_36.2.2.2.2.2.2.2.2.2.2.2 rfl rfl ?_
                                        refine X_getK hK fl_X12_7_13 hs_a0 ((hg3 a0 13 0 1 hs_a0 (by decide)).trans ((xs_k hg1 (by decide)).trans ey0)) kd28_37.1 ?_
                                        refine X_iload hK (i := 13) 4 kd28_37.2.1 rfl ?_
                                        refine X_iald hK hs_y0 (by decide) sl_14100 (by omega) (by omega) kd28_37.2.2.1 (fun z57074 ez57074 lz57074 uz57074 => ?_)
                                        have hvz57074 := xv_e (j := z56595) ez57074 (by omega)
                                        have hl57075 : xv g y0 z56595 = z57074 := xv_e (j := z56595) (((hg3 _ _ _ _ hs_y0 (by rw [xky_a (by decide)]; decide)).trans (xs_a hg1 (xne hs_y0 hs_a0 (by decide)))).symm.trans ez57074) (by omega)
                                        refine X_i2lE hK (by omega) kd28_37.2.2.2.1 ?_
                                        refine X_lmulE hK kd28_37.2.2.2.2.1 ?_
                                        refine X_aloadn hK (i := 0) 10 kd28_37.2.2.2.2.2.1 rfl rfl ?_
                                        refine X_getK hK fl_X12_7_13 hs_a0 ((hg3 a0 13 0 1 hs_a0 (by decide)).trans ((xs_k hg1 (by decide)).trans ey0)) kd28_37.2.2.2.2.2.2.1 ?_
                                        refine X_iconst hK kd28_37.2.2.2.2.2.2.2.1 ?_
                                        refine X_iload hK (i := 14) 3 kd28_37.2.2.2.2.2.2.2.2.1 rfl ?_
                                        refine X_iadd hK kd28_37.2.2.2.2.2.2.2.2.2.1 ?_
                                        refine X_iald hK hs_y0 (by decide) sl_14100 (by omega) (by omega) kd28_37.2.2.2.2.2.2.2.2.2.2.1 (fun z57076 ez57076 lz57076 uz57076 => ?_)
                                        have hvz57076 := xv_e (j := (4 + z57003)) ez57076 (by omega)
                                        have hl57077 : xv g y0 (4 + z57003) = z57076 := xv_e (j := (4 + z57003)) (((hg3 _ _ _ _ hs_y0 (by rw [xky_a (by decide)]; decide)).trans (xs_a hg1 (xne hs_y0 hs_a0 (by decide)))).symm.trans ez57076) (by omega)
                                        refine X_i2lE hK (by omega) kd28_37.2.2.2.2.2.2.2.2.2.2.2 ?_
                                        refine X_lmulE hK kd28_38.1 ?_
                                        refine X_laddE hK kd28_38.2.1 ?_
                                        refine X_lstore hK (i := 11) [(11, .long (y57004 + ((((((iL x4) * (iL z53913)) - (iL z57065)) + (iL z57072)) * (iL z57074)) * (iL z57076)))), (17, .long ((((iL x4) * (iL z53913)) - (iL z57065)) + (iL z57072))), (16, .int (iI z53913)), (15, .int (iI z57042)), (14, .int (iI z57003)), (13, .int (iI z56595)), (10, .int (iI z53913)), (8, .long y53914), (7, .int (iI z53915)), (6, .int (iI z5)), (0, .ref a0), (1, .int (iI x1)), (2, .int (iI x2)), (3, .int (iI x3)), (4, .int (iI x4)), (5, .int (iI x5))] kd28_38.2.2.1 (by decide) rfl ?_
                                        refine X_iinc hK (i := 14) (z := z57003) (n := 1) 4 [(14, .int (iI (z57003 + 1))), (11, .long (y57004 + ((((((iL x4) * (iL z53913)) - (iL z57065)) + (iL z57072)) * (iL z57074)) * (iL z57076)))), (17, .long ((((iL x4) * (iL z53913)) - (iL z57065)) + (iL z57072))), (16, .int (iI z53913)), (15, .int (iI z57042)), (13, .int (iI z56595)), (10, .int (iI z53913)), (8, .long y53914), (7, .int (iI z53915)), (6, .int (iI z5)), (0, .ref a0), (1, .int (iI x1)), (2, .int (iI x2)), (3, .int (iI x3)), (4, .int (iI x4)), (5, .int (iI x5))] kd28_38.2.2.2.1 rfl (by decide) rfl ?_
                                        refine X_goto hK 130 kd28_38.2.2.2.2.1 (by decide) ?_
                                        refine X_lv [(14, .int (iI (z57003 + 1))), (13, .int (iI z56595)), (11, .long (y57004 + ((((((iL x4) * (iL z53913)) - (iL z57065)) + (iL z57072)) * (iL z57074)) * (iL z57076)))), (10, .int (iI z53913)), (8, .long y53914), (7, .int (iI z53915)), (6, .int (iI z5)), (0, .ref a0), (1, .int (iI x1)), (2, .int (iI x2)), (3, .int (iI x3)), (4, .int (iI x4)), (5, .int (iI x5))] [0, 5, 1, 6, 7, 8, 9, 10, 11, 12, 13, 14, 15] rfl ?_
                                        exact ihP57036  (z57003 + 1) (by omega) (by omega) (y57004 + ((((((iL x4) * (iL z53913)) - (iL z57065)) + (iL z57072)) * (iL z57074)) * (iL z57076))) (xsum_at (xbest_s (a := z57042) (t1 := z57074) (t2 := z57076) v57037 (by omega) (by omega) (by rw [xA_j (by omega)]; exact hA57044.symm) (by rw [xT_j (by omega), hl57075, hl57077]) (by omega) k57066 hd57070 hd57073 rfl) (by omega)) (by omega)
                                exact P57036 ((22 - 0 : Int).toNat + 1) 0 (by omega) (by omega) y56596 (xsum_at v56833 (by omega)) (by omega)
                          exact P56832 ((20 - 0 : Int).toNat + 1) 0 (by omega) (by omega) (iL 0) rfl (by omega)
                    exact P55409 ((417 - 0 : Int).toNat + 1) 0 (by omega) (by omega) (iL 0) 0 (by omega) (by omega) (Or.inl ⟨rfl, rfl⟩) (by omega)
                  · refine X_aloadn hK (i := 0) 2 kd28_31.1 rfl rfl ?_
                    refine X_getK hK fl_X12_7_13 hs_a0 ((hg3 a0 13 0 1 hs_a0 (by decide)).trans ((xs_k hg1 (by decide)).trans ey0)) kd28_31.2.1 ?_
                    refine X_iload hK (i := 7) 0 kd28_31.2.2.1 rfl ?_
                    refine X_iald hK hs_y0 (by decide) sl_14100 (by omega) (by omega) kd28_31.2.2.2.1 (fun z57078 ez57078 lz57078 uz57078 => ?_)
                    have hvz57078 := xv_e (j := z37163) ez57078 (by omega)
                    refine X_bipush hK kd28_31.2.2.2.2.1 (by decide) ?_
                    refine X_icmp_le hK 92 (by omega) (by omega) kd28_31.2.2.2.2.2.1 (by decide) (fun c57079 => ?_) (fun c57079 => ?_)
                    · refine X_iinc hK (i := 7) (z := z37163) (n := 1) 0 [(7, .int (iI (z37163 + 1))), (6, .int (iI z5)), (0, .ref a0), (1, .int (iI x1)), (2, .int (iI x2)), (3, .int (iI x3)), (4, .int (iI x4)), (5, .int (iI x5))] kd28_31.2.2.2.2.2.2.2.2.1 rfl (by decide) rfl ?_
                      refine X_goto hK 71 kd28_31.2.2.2.2.2.2.2.2.2.1 (by decide) ?_
                      exact ihP46443  (z37163 + 1) (by omega) (by omega) (xNa.s v46444 (xv_e ez57078 (by omega)) (by omega)) (by omega)
                    · refine X_iconst hK kd28_31.2.2.2.2.2.2.1 ?_
                      exact hret _ _ _ _ _ _ _ kd28_31.2.2.2.2.2.2.2.1 ⟨rfl, (-1), rfl, (by omega), (by omega), (k7.trans (by congr 2 <;> omega)), (Or.inr ⟨(fun q9 => by have h8 := q9.2 z37163 (by omega) (by omega); rw [← (Eq.trans (xv_m hg3 hs_y0 (by decide) (by decide)) (xv_a hg1 (xne hs_y0 hs_a0 (by decide))))] at h8; omega), by omega, ((hg3 a0 13 0 70 hs_a0 (by decide)).trans (xs_k hg1 (by decide)))⟩)⟩ (Nat.le_refl _) (Nat.le_refl _)
              exact P46443 ((26 - 0 : Int).toNat + 1) 0 (by omega) (by omega) xNa.z (by omega)
            · refine X_iconst hK kd28_30.2.2.2.2.2.1 ?_
              exact hret _ _ _ _ _ _ _ kd28_30.2.2.2.2.2.2.1 ⟨rfl, (-1), rfl, (by omega), (by omega), (k7.trans (by congr 2 <;> omega)), (Or.inr ⟨(fun q9 => by have h8 := q9.1; omega), by omega, ((hg3 a0 13 0 70 hs_a0 (by decide)).trans (xs_k hg1 (by decide)))⟩)⟩ (Nat.le_refl _) (Nat.le_refl _)

set_option maxHeartbeats 4000000 in
set_option maxRecDepth 100000 in
theorem c5_expected (l : Launch) (D : va_G) (kA : Nat → ClassId) (b0 : Nat) (t0 : Nat → Nat) (S : xT) (g : xG) (a0 : Nat) (ch : Nat) (hs_a0 : S a0 = some (12, 0)) (ech : g a0 8 = .ref ch) (hs_ch : S ch = some (3, 0)) : xMt l yX11_expected cX11_expected 1 (some .long) 0 0 0 0 D kA b0 t0 [] [.ref a0] S g (fun (r : Option Value) (S1 : xT) (g1 : xG) => S = S1 ∧ g = g1 ∧ ∃ z : Int64, r = some (.long z) ∧ (g ch 3 = .long z)) := by
  refine xEnterL (by decide) (by simp [lg_sl, Value.category]) [(0, .ref a0)] rfl ?_
  intro K E hK hret _ _ _
  refine X_aloadn hK (i := 0) 0 kd39_18.2.2.2.2.2.2.2.2.2.1 rfl rfl ?_
  refine X_getK hK fl_X11_62_12 hs_a0 ech kd39_18.2.2.2.2.2.2.2.2.2.2.1 ?_
  refine X_getl hK fl_X11_303_3 hs_ch sl_3_3 kd39_18.2.2.2.2.2.2.2.2.2.2.2 (fun y1 ey1 => ?_)
  exact hret _ _ _ _ _ _ _ kd39_19.1 ⟨rfl, rfl, y1, rfl, ey1⟩ (Nat.le_refl _) (Nat.le_refl _)

set_option maxHeartbeats 4000000 in
set_option maxRecDepth 100000 in
theorem c5_mexpected (l : Launch) (D : va_G) (kA : Nat → ClassId) (b0 : Nat) (t0 : Nat → Nat) (S : xT) (g : xG) (a0 : Nat) (hs_a0 : S a0 = some (13, 0)) : xMt l yX12_expected cX12_expected 1 (some .long) 0 0 0 0 D kA b0 t0 [(13, 0)] [.ref a0] S g (fun (r : Option Value) (S1 : xT) (g1 : xG) => S = S1 ∧ ∃ z : Int64, r = some (.long z) ∧ (g1 a0 70 = .long z)) := by
  refine xEnterL (by decide) (by simp [lg_sl, Value.category]) [(0, .ref a0)] rfl ?_
  intro K E hK hret _ _ _
  refine X_aloadn hK (i := 0) 0 kd28_61.2.2.2.2.1 rfl rfl ?_
  refine X_iconst hK kd28_61.2.2.2.2.2.1 ?_
  refine X_puti hK fl_X12_198_13 hs_a0 (by decide) sl_13_0 (by omega) (by omega) kd28_61.2.2.2.2.2.2.1 (fun g1 hg1 => ?_)
  refine X_aloadn hK (i := 0) 0 kd28_61.2.2.2.2.2.2.2.1 rfl rfl ?_
  refine X_getl hK fl_X12_434_13 hs_a0 sl_13_70 kd28_61.2.2.2.2.2.2.2.2.1 (fun y2 ey2 => ?_)
  exact hret _ _ _ _ _ _ _ kd28_61.2.2.2.2.2.2.2.2.2.1 ⟨rfl, y2, rfl, ey2⟩ (Nat.le_refl _) (Nat.le_refl _)
