
theorem iL_inj {a b : Int} (ha : -9223372036854775808 ≤ a ∧ a < 9223372036854775808) (hb : -9223372036854775808 ≤ b ∧ b < 9223372036854775808) (h : iL a = iL b) : a = b := by
  have e := congrArg Int64.toInt h
  unfold iL at e
  rw [Int64.toInt_ofInt_of_le (by omega) (by omega), Int64.toInt_ofInt_of_le (by omega) (by omega)] at e
  exact e
def xHn (n k c : Int) : Prop := (k = 0 → n ≤ 300) ∧ (k = 1 → c = 23 → 300 < n)
theorem xnc.n {f : Int → Int} {s e : Int} (hse : s ≤ e) : xnc f s e ≠ 23 := by
  have b := (xdg.b (f := f) (s := s) (e - s).toNat).2.2.1
  unfold xnc
  by_cases c1 : (xdg f s (e - s).toNat).1 = e - s
  · rw [if_pos c1]
    by_cases c2 : (xdg f s (e - s).toNat).1 ≤ 4
    · rw [if_pos c2]; omega
    · rw [if_neg c2]; omega
  · rw [if_neg c1]
    by_cases c2 : (xdg f s (e - s).toNat).1 = 0
    · rw [if_pos c2]
      rw [xWS_jn, xwf.jn (by omega) xwl 0 xwl_b]
      have len : xwl.length = 22 := by decide
      rcases xfi.sp (f := f) (s := s) (k := e - s) xwl 0 with ⟨i, i1, i2, i3⟩ | ⟨i1, i2⟩
      · omega
      · omega
    · rw [if_neg c2]; omega
def xCuL (c kind num : Int) (word : Int64) (sign : Int) : Prop := (kind = 2 ∧ ((0 ≤ c ∧ c < 22 ∧ word = iL (xvl c)) ∨ (c = 22 ∧ ∀ j : Int, 0 ≤ j → j < 22 → word ≠ iL (xvl j)))) ∨ (kind = 3 ∧ c = 100 + num ∧ 0 ≤ num ∧ num ≤ 9999) ∨ (kind = 4 ∧ c = xmkc sign ∧ c ≠ 22) ∨ (kind = 1 ∧ (c = 22 ∨ c = 23)) ∨ (kind = 0 ∧ c = 23)
theorem xvl_iL : ∀ i j : Fin 22, iL (xvl ((i.val : Nat) : Int)) = iL (xvl ((j.val : Nat) : Int)) → i = j := by decide +kernel
theorem xvl_b : ∀ i : Fin 22, 0 ≤ xvl ((i.val : Nat) : Int) ∧ xvl ((i.val : Nat) : Int) < 1000000000000 := by decide +kernel
theorem xmkc.r (b : Int) : 22 ≤ xmkc b ∧ xmkc b ≤ 29 ∧ xmkc b ≠ 23 := by
  unfold xmkc
  split
  · omega
  · split
    · omega
    · split
      · omega
      · split <;> omega
theorem xCuL.key {c kind num sign j : Int} {word : Int64} (h : xCuL c kind num word sign) (hj : 0 ≤ j ∧ j < 22) : (kind = 2 ∧ word = iL (xvl j)) ↔ c = j := by
  constructor
  · rintro ⟨a, b⟩
    rcases h with ⟨_, ⟨h1, h2, h3⟩ | ⟨h1, h2⟩⟩ | h | h | h | h
    · have e := xvl_iL ⟨c.toNat, by omega⟩ ⟨j.toNat, by omega⟩ (by
        show iL (xvl ((c.toNat : Nat) : Int)) = iL (xvl ((j.toNat : Nat) : Int))
        rw [show ((c.toNat : Nat) : Int) = c by omega, show ((j.toNat : Nat) : Int) = j by omega, ← h3, b])
      have e' : c.toNat = j.toNat := congrArg Fin.val e
      omega
    · exact absurd b (h2 j hj.1 hj.2)
    · omega
    · omega
    · omega
    · omega
  · intro e
    rcases h with ⟨k, ⟨h1, h2, h3⟩ | ⟨h1, h2⟩⟩ | h | ⟨h, h', h''⟩ | h | h
    · exact ⟨k, by rw [← e]; exact h3⟩
    · omega
    · omega
    · have := xmkc.r sign
      omega
    · omega
    · omega
theorem xCuL.num {c kind num sign : Int} {word : Int64} (h : xCuL c kind num word sign) : (kind = 3 ↔ 100 ≤ c) ∧ (kind = 3 → c = 100 + num ∧ 0 ≤ num ∧ num ≤ 9999) := by
  have r := xmkc.r sign
  rcases h with ⟨k, ⟨h1, h2, h3⟩ | ⟨h1, h2⟩⟩ | h | ⟨h, h', h''⟩ | h | h
  · exact ⟨by omega, fun q => by omega⟩
  · exact ⟨by omega, fun q => by omega⟩
  · exact ⟨by omega, fun _ => h.2⟩
  · exact ⟨by omega, fun q => by omega⟩
  · exact ⟨by omega, fun q => by omega⟩
  · exact ⟨by omega, fun q => by omega⟩
theorem xCuL.stop {c kind num sign : Int} {word : Int64} (h : xCuL c kind num word sign) (e : kind = 0) : c = 23 := by
  rcases h with ⟨k, _⟩ | h | ⟨h, h', h''⟩ | h | h
  · omega
  · omega
  · omega
  · omega
  · exact h.2
theorem xCuL.sg {c kind num sign x : Int} {word : Int64} (h : xCuL c kind num word sign) (hx : x = 59 ∨ x = 40 ∨ x = 41 ∨ (60 ≤ x ∧ x ≤ 62)) : (kind = 4 ∧ sign = x) ↔ c = xmkc x := by
  have r := xmkc.r sign
  have rx : xmkc x = if x = 59 then 24 else if x = 40 then 25 else if x = 41 then 26 else x - 33 := by
    unfold xmkc
    split
    · rfl
    · split
      · rfl
      · split
        · rfl
        · rw [if_pos (by omega)]
  constructor
  · rintro ⟨a, b⟩
    rcases h with ⟨k, _⟩ | h | ⟨h, h', h''⟩ | h | h
    · omega
    · omega
    · rw [h', b]
    · omega
    · omega
  · intro e
    rcases h with ⟨k, ⟨h1, h2, h3⟩ | ⟨h1, h2⟩⟩ | h | ⟨h, h', h''⟩ | h | h
    · rw [rx] at e; (repeat' split at e) <;> omega
    · rw [rx] at e; (repeat' split at e) <;> omega
    · rw [rx] at e; (repeat' split at e) <;> omega
    · refine ⟨h, ?_⟩
      rw [h', rx] at e
      rw [h'] at h''
      unfold xmkc at e h''
      (repeat' split at e) <;> (repeat' split at h'') <;> omega
    · rw [rx] at e; (repeat' split at e) <;> omega
    · rw [rx] at e; (repeat' split at e) <;> omega
theorem xwf.long {f : Int → Int} {s k : Int} (hk : 8 ≤ k) : xwf f s k xWS 0 0 = 22 := by
  rw [xWS_jn, xwf.jn (by omega) xwl 0 xwl_b]
  rcases xfi.sp (f := f) (s := s) (k := k) xwl 0 with ⟨i, i1, i2, i3⟩ | ⟨i1, i2⟩
  · exfalso
    have key : ∀ i : Fin 22, (xwl.getD i.val []).length ≤ 7 := by decide
    have l := (xwb.iff (xwl.getD i []) 0 (Int.le_refl _)).mp i3
    have len : xwl.length = 22 := by decide
    have := key ⟨i, by rw [← len]; exact i1⟩
    have this' : (xwl.getD i []).length ≤ 7 := this
    omega
  · exact i1
theorem xb27.up {f : Int → Int} {s : Int} : ∀ k : Nat, (∀ i : Int, 0 ≤ i → i < k → 97 ≤ f (s + i) ∧ f (s + i) ≤ 122) → k ≤ 8 → xb27 f s k < 282429536481 := by
  have p : ∀ k : Nat, (∀ i : Int, 0 ≤ i → i < k → 97 ≤ f (s + i) ∧ f (s + i) ≤ 122) → xb27 f s k < 27 ^ k := by
    intro k
    induction k with
    | zero => intro _; show (0 : Int) < 27 ^ 0; decide
    | succ k ih =>
      intro h
      have a := ih (fun i q1 q2 => h i q1 (by omega))
      have b := h k (by omega) (by omega)
      show 27 * xb27 f s k + (f (s + k) - 96) < 27 ^ (k + 1)
      rw [Int.pow_succ]
      omega
  intro k h hk
  have a := p k h
  have b : (27 : Int) ^ k ≤ 27 ^ 8 := by
    rcases (show k = 0 ∨ k = 1 ∨ k = 2 ∨ k = 3 ∨ k = 4 ∨ k = 5 ∨ k = 6 ∨ k = 7 ∨ k = 8 by omega) with e | e | e | e | e | e | e | e | e <;> subst e <;> decide
  have c : (27 : Int) ^ 8 = 282429536481 := by decide
  omega
theorem xnk {f : Int → Int} {s e l gd kind num sign : Int} {word : Int64} (h1 : s + 1 ≤ e) (hn : ∀ i, s ≤ i → i < e → xch9 (f i)) (hl : l = 1 ↔ (97 ≤ f s ∧ f s ≤ 122)) (hg : gd = 1 ↔ ∀ i, 0 ≤ i → i < e - s → ((97 ≤ f (s + i) ∧ f (s + i) ≤ 122) ↔ l = 1)) (hw : e - s ≤ 8 → word = iL (xb27 f s (e - s).toNat)) (hnum : e - s ≤ 4 → num = xnu f s (e - s).toNat) (hk : kind = if gd ≠ 1 ∨ (if l = 1 then 8 else 4) < e - s then 1 else if l = 1 then 2 else 3) : xCuL (xnc f s e) kind num word sign := by
  have ek : (((e - s).toNat : Nat) : Int) = e - s := by omega
  have nm : ∀ i : Int, 0 ≤ i → i < e - s → xch9 (f (s + i)) := fun i q1 q2 => hn (s + i) (by omega) (by omega)
  by_cases g : gd = 1
  · have ga := hg.mp g
    by_cases c : l = 1
    · have let_ : ∀ i : Int, 0 ≤ i → i < e - s → 97 ≤ f (s + i) ∧ f (s + i) ≤ 122 := fun i q1 q2 => (ga i q1 q2).mpr c
      have d0 : xdg f s (e - s).toNat = (0, 0) := xdg.no _ (fun i q1 q2 => by have := let_ i q1 (by omega); omega)
      have ec : xnc f s e = xwf f s (e - s) xWS 0 0 := by
        unfold xnc
        rw [d0, if_neg (by show ¬ ((0 : Int) = e - s); omega), if_pos rfl]
      rw [if_pos c, if_pos c] at hk
      by_cases k8 : 8 < e - s
      · rw [if_pos (Or.inr k8)] at hk
        rw [ec, xwf.long (by omega)]
        exact Or.inr (Or.inr (Or.inr (Or.inl ⟨hk, Or.inl rfl⟩)))
      · rw [if_neg (by omega)] at hk
        have w := hw (by omega)
        have nn := xb27.nn (f := f) (s := s) (e - s).toNat (fun i q1 q2 => let_ i q1 (by omega))
        have uu := xb27.up (f := f) (s := s) (e - s).toNat (fun i q1 q2 => let_ i q1 (by omega)) (by omega)
        rw [ec]
        refine Or.inl ⟨hk, ?_⟩
        rcases xcw (f := f) (s := s) (k := e - s) (by omega) let_ with ⟨a1, a2, a3⟩ | ⟨a1, a2⟩
        · exact Or.inl ⟨a1, a2, by rw [w, a3]⟩
        · refine Or.inr ⟨a1, fun j q1 q2 q => a2 j q1 q2 ?_⟩
          have vb := xvl_b ⟨j.toNat, by omega⟩
          have vb' : 0 ≤ xvl ((j.toNat : Nat) : Int) ∧ xvl ((j.toNat : Nat) : Int) < 1000000000000 := vb
          rw [show ((j.toNat : Nat) : Int) = j by omega] at vb'
          exact iL_inj (by omega) (by omega) (w.symm.trans q)
    · have dg : ∀ i : Int, 0 ≤ i → i < (e - s).toNat → 48 ≤ f (s + i) ∧ f (s + i) ≤ 57 := fun i q1 q2 => by
        have a := nm i q1 (by omega)
        have b := ga i q1 (by omega)
        rcases a with a | a
        · exact absurd (b.mp a) c
        · exact a
      have da := xdg.all (f := f) (s := s) (e - s).toNat dg
      rw [if_neg c, if_neg c] at hk
      by_cases k4 : 4 < e - s
      · rw [if_pos (Or.inr k4)] at hk
        have ec : xnc f s e = 22 := by
          unfold xnc
          rw [da]
          show (if (((e - s).toNat : Nat) : Int) = e - s then (if (((e - s).toNat : Nat) : Int) ≤ 4 then _ else _) else _) = (22 : Int)
          rw [if_pos ek, if_neg (by omega)]
        rw [ec]
        exact Or.inr (Or.inr (Or.inr (Or.inl ⟨hk, Or.inl rfl⟩)))
      · rw [if_neg (by omega)] at hk
        have bb := xdg.b (f := f) (s := s) (e - s).toNat
        rw [da] at bb
        have bb3 : 0 ≤ xnu f s (e - s).toNat := bb.2.2.1
        have bb4 : xnu f s (e - s).toNat ≤ 9999 := bb.2.2.2.2.2.2.2
        have ec : xnc f s e = 100 + xnu f s (e - s).toNat := by
          unfold xnc
          rw [da]
          show (if (((e - s).toNat : Nat) : Int) = e - s then (if (((e - s).toNat : Nat) : Int) ≤ 4 then 100 + xnu f s (e - s).toNat else _) else _) = _
          rw [if_pos ek, if_pos (by omega)]
        have en := hnum (by omega)
        rw [ec]
        exact Or.inr (Or.inl ⟨hk, by omega, by omega, by omega⟩)
  · rw [if_pos (Or.inl g)] at hk
    have ng : ∃ i, 0 ≤ i ∧ i < e - s ∧ ¬ ((97 ≤ f (s + i) ∧ f (s + i) ≤ 122) ↔ l = 1) := by
      by_cases q : ∃ i, 0 ≤ i ∧ i < e - s ∧ ¬ ((97 ≤ f (s + i) ∧ f (s + i) ≤ 122) ↔ l = 1)
      · exact q
      · exact absurd (hg.mpr (fun i q1 q2 => by
          by_cases w : (97 ≤ f (s + i) ∧ f (s + i) ≤ 122) ↔ l = 1
          · exact w
          · exact absurd ⟨i, q1, q2, w⟩ q)) g
    obtain ⟨i, i1, i2, i3⟩ := ng
    have n0 := nm 0 (by omega) (by omega)
    rw [show s + 0 = s by omega] at n0
    have ni := nm i i1 i2
    have mx : 0 < (xdg f s (e - s).toNat).1 ∧ (xdg f s (e - s).toNat).1 < ((e - s).toNat : Nat) := by
      by_cases c : l = 1
      · have a := hl.mp c
        refine xdg.mix _ ⟨i, i1, by omega, ?_⟩ ⟨0, by omega, by omega, by rw [show s + 0 = s by omega]; omega⟩
        rcases ni with b | b
        · exact absurd ⟨fun _ => c, fun _ => b⟩ i3
        · exact b
      · refine xdg.mix _ ⟨0, by omega, by omega, ?_⟩ ⟨i, i1, by omega, ?_⟩
        · rw [show s + 0 = s by omega]
          rcases n0 with b | b
          · exact absurd (hl.mpr b) c
          · exact b
        · rcases ni with b | b
          · omega
          · exact absurd ⟨fun q => by omega, fun q => absurd q c⟩ i3
    have ec : xnc f s e = 22 := by
      unfold xnc
      rw [if_neg (by omega), if_neg (by omega)]
    rw [ec]
    exact Or.inr (Or.inr (Or.inr (Or.inl ⟨hk, Or.inl rfl⟩)))
theorem xb27.s {f : Int → Int} {s i : Int} (h : s ≤ i) : xb27 f s (i + 1 - s).toNat = 27 * xb27 f s (i - s).toNat + (f i - 96) := by
  rw [show (i + 1 - s).toNat = (i - s).toNat + 1 by omega]
  show 27 * xb27 f s (i - s).toNat + (f (s + (((i - s).toNat : Nat) : Int)) - 96) = _
  rw [show s + (((i - s).toNat : Nat) : Int) = i by omega]
theorem xnu.s {f : Int → Int} {s i : Int} (h : s ≤ i) (h4 : i - s < 4) : xnu f s (i + 1 - s).toNat = 10 * xnu f s (i - s).toNat + f i - 48 := by
  rw [show (i + 1 - s).toNat = (i - s).toNat + 1 by omega]
  show (if (i - s).toNat < 4 then 10 * xnu f s (i - s).toNat + f (s + (((i - s).toNat : Nat) : Int)) - 48 else _) = _
  rw [if_pos (by omega), show s + (((i - s).toNat : Nat) : Int) = i by omega]
theorem xsm.s {f : Int → Int} {s i l d : Int} {gd gd' : Int} (h : s ≤ i) (hd : f i = d) (hg : gd = 1 ↔ ∀ x, 0 ≤ x → x < i - s → ((97 ≤ f (s + x) ∧ f (s + x) ≤ 122) ↔ l = 1)) (e : gd' = 1 ↔ gd = 1 ∧ ((97 ≤ d ∧ d ≤ 122) ↔ l = 1)) : gd' = 1 ↔ ∀ x, 0 ≤ x → x < i + 1 - s → ((97 ≤ f (s + x) ∧ f (s + x) ≤ 122) ↔ l = 1) := by
  rw [e, hg]
  constructor
  · rintro ⟨a, b⟩ x q1 q2
    by_cases q : x = i - s
    · rw [q, show s + (i - s) = i by omega, hd]; exact b
    · exact a x q1 (by omega)
  · intro a
    refine ⟨fun x q1 q2 => a x q1 (by omega), ?_⟩
    have w := a (i - s) (by omega) (by omega)
    rw [show s + (i - s) = i by omega, hd] at w
    exact w
def xlk9 (c : Int) : Prop := (97 ≤ c ∧ c ≤ 122) ∨ (48 ≤ c ∧ c ≤ 57)
theorem xlk9.b {c : Int} (h : xlk9 c) : 48 ≤ c ∧ c ≤ 122 := by
  unfold xlk9 at h
  omega
def xgd9 (z v d l : Int) : Prop := z = 1 ↔ (v = 1 ∧ ((97 ≤ d ∧ d ≤ 122) ↔ l = 1))
theorem xgd9.a {z v d l : Int} (hz : z = 0) (hv : v = 0) : xgd9 z v d l := by
  unfold xgd9
  omega
theorem xgd9.b {z v d l r : Int} (hz : z = 1) (hv : v = 0 ∨ v = 1) (hn : v ≠ 0) (hr : r = 1 ↔ 97 ≤ d ∧ d ≤ 122) (e : r = l) : xgd9 z v d l := by
  unfold xgd9
  omega
theorem xgd9.c {z v d l r : Int} (hz : z = 0) (hr : r = 1 ↔ 97 ≤ d ∧ d ≤ 122) (h0 : r = 0 ∨ r = 1) (hl : l = 0 ∨ l = 1) (e : r ≠ l) : xgd9 z v d l := by
  unfold xgd9
  omega
theorem xlinj9 {a b : Int64} {v : Value} (h1 : v = .long a) (h2 : v = .long b) : a = b := by
  rw [h1] at h2
  cases h2
  rfl
theorem xhx9 {e n x y r1 r2 fe : Int} (h1 : (e < n ∧ x = fe) ∨ (n ≤ e ∧ x = 0)) (h2 : (e < n ∧ y = fe) ∨ (n ≤ e ∧ y = 0)) (k1 : r1 = 1 ↔ 97 ≤ x ∧ x ≤ 122) (k2 : r2 = 1 ↔ 48 ≤ y ∧ y ≤ 57) (c1 : r1 ≠ 1) (c2 : r2 ≠ 1) : ¬ (e < n ∧ xlk9 fe) := by
  unfold xlk9
  omega
theorem xgoN {f : Int → Int} {n T e l gd kind num sign : Int} {word : Int64} (hT : 0 ≤ T ∧ T < n ∧ T < 300) (hc : xlk9 (f T)) (hl : l = 1 ↔ (97 ≤ f T ∧ f T ≤ 122)) (he : T ≤ e ∧ e ≤ n) (i0 : xnen f n e = xnen f n T) (hx : ¬ (e < n ∧ xlk9 (f e))) (i2 : ∀ i, T ≤ i → i < e → xch9 (f i)) (i3 : gd = 1 ↔ ∀ i, 0 ≤ i → i < e - T → ((97 ≤ f (T + i) ∧ f (T + i) ≤ 122) ↔ l = 1)) (i4 : e - T ≤ 8 → word = iL (xb27 f T (e - T).toNat)) (i5 : e - T ≤ 4 → num = xnu f T (e - T).toNat) (hk : kind = if gd ≠ 1 ∨ (if l = 1 then 8 else 4) < e - T then 1 else if l = 1 then 2 else 3) : xplc n T = T ∧ xed f n T = e ∧ (xCuL (xcd f n T) kind num word sign ∧ xHn n kind (xcd f n T)) := by
  have en : e = xnen f n T := (xnen.z hx).symm.trans i0
  have g := (xnen.ge (f := f) (n := n) (n - (T + 1)).toNat (T + 1) (Nat.le_refl _)).1
  have s := xnen.s (f := f) (n := n) (p := T) ⟨hT.2.1, hc⟩
  have e1 : T + 1 ≤ e := by rw [en, s]; exact g
  have ec : xcd f n T = xnc f T e := by
    unfold xcd
    rw [if_pos ⟨hT.2.1, hT.2.2⟩, if_pos (show xch9 (f T) from hc), ← en]
  refine ⟨?_, ?_, ?_⟩
  · unfold xplc; rw [if_pos ⟨hT.2.1, hT.2.2⟩]
  · unfold xed; rw [if_pos ⟨hT.2.1, hT.2.2⟩, if_pos (show xch9 (f T) from hc), ← en]
  · rw [ec]
    refine ⟨xnk e1 i2 hl i3 i4 i5 hk, ⟨fun h0 => ?_, fun _ h8 => absurd h8 (xnc.n he.1)⟩⟩
    rw [hk] at h0
    (repeat' split at h0) <;> omega
def xHd (f : Int → Int) (n a k nm : Int) (w : Int64) (sg fr to : Int) : Prop := 0 ≤ a ∧ fr = xtl f n a ∧ to = xed f n (xtp f n a.toNat) ∧ xCuL (xtk f n a) k nm w sg ∧ xHn n k (xtk f n a)
theorem xHd.go {f : Int → Int} {n a k nm sg fr to k' nm' sg' : Int} {w w' : Int64} (h : xHd f n a k nm w sg fr to) (cu : xCuL (xcd f n (xskp f n to)) k' nm' w' sg' ∧ xHn n k' (xcd f n (xskp f n to))) : xHd f n (a + 1) k' nm' w' sg' (xplc n (xskp f n to)) (xed f n (xskp f n to)) := by
  obtain ⟨h1, h2, h3, h4⟩ := h
  have e : xtp f n (a + 1).toNat = xskp f n to := by rw [xtp.s h1, ← h3]
  refine ⟨by omega, ?_, ?_, ?_⟩
  · unfold xtl; rw [e]
  · rw [e]
  · unfold xtk; rw [e]; exact cu
theorem xHd.z {f : Int → Int} {n k' nm' sg' : Int} {w' : Int64} (cu : xCuL (xcd f n (xskp f n 0)) k' nm' w' sg' ∧ xHn n k' (xcd f n (xskp f n 0))) : xHd f n 0 k' nm' w' sg' (xplc n (xskp f n 0)) (xed f n (xskp f n 0)) := ⟨Int.le_refl _, rfl, rfl, cu⟩
theorem xplc.b {n s : Int} (hn : 0 ≤ n) (hs : 0 ≤ s) : 0 ≤ xplc n s ∧ xplc n s ≤ 300 := by
  unfold xplc
  (repeat' split) <;> omega
theorem xed.b {f : Int → Int} {n s : Int} (hs : 0 ≤ s ∧ s ≤ n) : s ≤ xed f n s ∧ xed f n s ≤ n := by
  unfold xed
  split
  · split
    · have g := xnen.ge (f := f) (n := n) (n - s).toNat s (Nat.le_refl _)
      exact ⟨g.1, g.2.1 hs.2⟩
    · omega
  · omega
theorem xgo.b {f : Int → Int} {n to : Int} (ht : 0 ≤ to ∧ to ≤ n) : (0 ≤ xplc n (xskp f n to) ∧ xplc n (xskp f n to) ≤ 300) ∧ (0 ≤ xed f n (xskp f n to) ∧ xed f n (xskp f n to) ≤ n) := by
  have g := xskp.ge (f := f) (n := n) (n - to).toNat to (Nat.le_refl _)
  have s1 := g.2.1 ht.2
  have e := xed.b (f := f) (n := n) (s := xskp f n to) ⟨by omega, s1⟩
  exact ⟨xplc.b (by omega) (by omega), by omega, e.2⟩
def xsp1 (v c : Int) : Int := if 0 < c then 27 * v + c - 96 else v
theorem xsp1.p {v c : Int} (h : 0 < c) : xsp1 v c = 27 * v + c - 96 := if_pos h
theorem xsp1.n {v c : Int} (h : ¬ 0 < c) : xsp1 v c = v := if_neg h
def xspl (a b c d e : Int) : Int := xsp1 (xsp1 (xsp1 (27 * (a - 96) + b - 96) c) d) e
theorem xatn {c : Int} (h0 : c ≠ 10) (h1 : c ≠ 11) (h2 : c ≠ 12) (h3 : c ≠ 13) (h4 : c ≠ 14) (h5 : c ≠ 15) (h6 : c ≠ 16) (h7 : c ≠ 17) (h8 : c ≠ 18) (h9 : c ≠ 19) (h10 : c ≠ 20) (h11 : c ≠ 21) : ¬ (10 ≤ c ∧ c ≤ 21) := by omega
theorem xatp {c r j : Int} (h : c = j) (hj : 10 ≤ j ∧ j ≤ 21) (hr : r = j - 10) : (10 ≤ c ∧ c ≤ 21 ∧ r = c - 10) ∨ (¬ (10 ≤ c ∧ c ≤ 21) ∧ r = -1) := Or.inl ⟨by omega, by omega, by omega⟩
theorem xsrn {c : Int} (h : 0 ≤ c) (h0 : c ≠ 0) (h1 : c ≠ 1) (h2 : c ≠ 2) (h3 : c ≠ 3) (h4 : c ≠ 4) (h5 : c ≠ 5) : 6 ≤ c := by omega
theorem xsrp {c r j : Int} (h : c = j) (hj : 0 ≤ j ∧ j < 6) (hr : r = j) : (0 ≤ c ∧ c < 6 ∧ r = c) ∨ (6 ≤ c ∧ r = -1) := Or.inl ⟨by omega, by omega, by omega⟩
theorem xHd.key {f : Int → Int} {n a k nm sg fr to j : Int} {w : Int64} (h : xHd f n a k nm w sg fr to) (hj : 0 ≤ j ∧ j < 22) : (k = 2 ∧ w = iL (xvl j)) ↔ xtk f n a = j := h.2.2.2.1.key hj
theorem xHd.sg {f : Int → Int} {n a k nm sg fr to x : Int} {w : Int64} (h : xHd f n a k nm w sg fr to) (hx : x = 59 ∨ x = 40 ∨ x = 41 ∨ (60 ≤ x ∧ x ≤ 62)) : (k = 4 ∧ sg = x) ↔ xtk f n a = xmkc x := h.2.2.2.1.sg hx
theorem xHd.nn {f : Int → Int} {n a k nm sg fr to : Int} {w : Int64} (h : xHd f n a k nm w sg fr to) : 0 ≤ xtk f n a := by
  have r := xmkc.r sg
  rcases h.2.2.2.1 with ⟨k, ⟨h1, h2, h3⟩ | ⟨h1, h2⟩⟩ | h | ⟨h, h', h''⟩ | h | h <;> omega
def xHk (g : xG) (m : Nat) (f : Int → Int) (n k nm sg fr to : Int) (K : Int → Prop) : Prop := ∃ (w : Int64) (a : Int), g m 28 = .long w ∧ xHd f n a k nm w sg fr to ∧ K a
def xOne (g : xG) (m : Nat) (f : Int → Int) (n b k nm sg fr to ff : Int) (R : xRr9) (K : Int → Prop) : Prop := (b = 1 → g m 25 = .int (iI ff) ∧ xHk g m f n k nm sg fr to K) ∧ (b = 0 → (1 ≤ R.1 ∧ R.1 ≤ 4) ∧ g m 25 = .int (iI R.1) ∧ g m 26 = .int (iI (xtl f n R.2.1)) ∧ 0 ≤ xtl f n R.2.1 ∧ xtl f n R.2.1 ≤ 420)
theorem xOne.bad {g : xG} {m : Nat} {f : Int → Int} {n k F q a : Int} {R : xRr9} (hR : R = xfq9 k a) (hk : 1 ≤ k ∧ k ≤ 4) (e1 : g m 25 = .int (iI F)) (eF : F = k) (e2 : g m 26 = .int (iI q)) (eq : q = xtl f n a) (hq : 0 ≤ q ∧ q ≤ 420) : (1 ≤ R.1 ∧ R.1 ≤ 4) ∧ g m 25 = .int (iI R.1) ∧ g m 26 = .int (iI (xtl f n R.2.1)) ∧ 0 ≤ xtl f n R.2.1 ∧ xtl f n R.2.1 ≤ 420 := by
  subst hR
  subst eF
  subst eq
  exact ⟨hk, e1, e2, hq⟩
theorem xHd.wr {f : Int → Int} {n a k nm sg fr to : Int} {w : Int64} (h : xHd f n a k nm w sg fr to) (e : k = 1) : xtk f n a = 22 ∨ xtk f n a = 23 := by
  rcases h.2.2.2.1 with ⟨k, _⟩ | h | ⟨h, _⟩ | h | h
  · omega
  · omega
  · omega
  · exact h.2
  · omega
theorem xHd.num {f : Int → Int} {n a k nm sg fr to : Int} {w : Int64} (h : xHd f n a k nm w sg fr to) : (k = 3 ↔ 100 ≤ xtk f n a) ∧ (k = 3 → xtk f n a = 100 + nm ∧ 0 ≤ nm ∧ nm ≤ 9999) := h.2.2.2.1.num
theorem xHd.stop {f : Int → Int} {n a k nm sg fr to : Int} {w : Int64} (h : xHd f n a k nm w sg fr to) (e : k = 0) : xtk f n a = 23 ∧ n ≤ 300 := ⟨h.2.2.2.1.stop e, h.2.2.2.2.1 e⟩
theorem xHd.e23 {f : Int → Int} {n a k nm sg fr to : Int} {w : Int64} (h : xHd f n a k nm w sg fr to) (e : xtk f n a = 23) (hk : k ≠ 0) : 300 < n := by
  have r := xmkc.r sg
  rcases h.2.2.2.1 with ⟨k, ⟨h1, h2, h3⟩ | ⟨h1, h2⟩⟩ | h' | ⟨h1, h2, h3⟩ | h' | h'
  · omega
  · omega
  · omega
  · omega
  · exact h.2.2.2.2.2 h'.1 e
  · omega
