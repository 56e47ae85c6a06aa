
def xdl9 (h : Int → Int) : Nat → Int → List xS3
  | 0, _ => []
  | k + 1, n => (h (n - 1), 0, 0) :: xdl9 h k (n - 1)
theorem xdl9.len {h : Int → Int} : ∀ (k : Nat) (n : Int), (xdl9 h k n).length = k := by
  intro k
  induction k with
  | zero => intro n; rfl
  | succ k ih => intro n; show (xdl9 h k (n - 1)).length + 1 = k + 1; rw [ih]
theorem xdl9.at {h : Int → Int} : ∀ (k : Nat) (n : Int) (j : Nat), j < k → (xdl9 h k n).getD j (0, 0, 0) = (h (n - 1 - j), 0, 0) := by
  intro k
  induction k with
  | zero => intro n j hj; omega
  | succ k ih =>
    intro n j hj
    cases j with
    | zero => show (h (n - 1), (0 : Int), (0 : Int)) = _; rw [show n - 1 - ((0 : Nat) : Int) = n - 1 by omega]
    | succ j =>
      show (xdl9 h k (n - 1)).getD j (0, 0, 0) = _
      rw [ih (n - 1) j (by omega), show n - 1 - 1 - (j : Int) = n - 1 - ((j + 1 : Nat) : Int) by omega]
theorem xdl9.cg {h h' : Int → Int} : ∀ (k : Nat) (n : Int), (∀ i, n - k ≤ i → i < n → h' i = h i) → xdl9 h' k n = xdl9 h k n := by
  intro k
  induction k with
  | zero => intro n _; rfl
  | succ k ih =>
    intro n hc
    show (h' (n - 1), (0 : Int), (0 : Int)) :: xdl9 h' k (n - 1) = (h (n - 1), (0 : Int), (0 : Int)) :: xdl9 h k (n - 1)
    rw [hc (n - 1) (by omega) (by omega), ih (n - 1) (fun i q1 q2 => hc i (by omega) (by omega))]
def xKsL (tk h : Int → Int) (nt d a o : Int) (L : List xS3) (r : xRr9) : Prop := ∃ P : List Int, xPz h P nt ∧ d = xcn9 P ∧ xKm tk P 0 (d + 1) (0, a, o, L) r
def xKoL (tk h : Int → Int) (nt d a o : Int) (L : List xS3) (r : xRr9) : Prop := ∃ (P : List Int) (r1 : xRr9), xPz h P nt ∧ d = xcn9 P ∧ xQ tk 0 (d + 1) a o L r1 ∧ xKm tk P 0 (d + 1) r1 r
section XKL
variable {tk h h' : Int → Int} {nt d a o b c x : Int} {r : xRr9} {L : List xS3}
theorem xKoL.k (w : xKoL tk h nt d a o L r) : xKo tk h nt d a o r := by
  obtain ⟨P, r1, h1, h2, h3, h4⟩ := w
  exact ⟨P, L, r1, h1, h2, h3, h4⟩
theorem xKsL.k (w : xKsL tk h nt d a o L r) : xKs tk h nt d a o r := by
  obtain ⟨P, h1, h2, h3⟩ := w
  exact ⟨P, L, h1, h2, h3⟩
theorem xKoL.start (w : xQ tk 2 1 a o [] r) (hn : nt = 0) (hd : d = 0) : xKoL tk h nt d a o [] r := by
  obtain ⟨r1, w1, w2⟩ := xKm.start w
  refine ⟨[], r1, hn, hd, ?_, ?_⟩
  · rw [show d + 1 = 1 by omega]; exact w1
  · rw [show d + 1 = 1 by omega]; exact w2
theorem xKoL.flag (k : xKoL tk h nt d a o L r) (c : 10 ≤ tk a ∧ tk a ≤ 12) (c2 : ¬ (50 ≤ o ∨ 10 < d + 1)) (eb : b = a + 1) : xKsL tk h nt d b (o + 1) (L ++ [(tk a - 10, 2, 0)]) r := by
  subst eb
  obtain ⟨P, r1, h1, h2, h3, h4⟩ := k
  have e := h3.det (xQ.flag c c2)
  subst e
  exact ⟨P, h1, h2, h4⟩
theorem xKoL.cmp (k : xKoL tk h nt d a o L r) (c1 : 13 ≤ tk a ∧ tk a ≤ 21) (c2 : ¬ (50 ≤ o ∨ 10 < d + 1)) (eb : b = a + 1) (ec : c = a + 2) (c3 : 27 ≤ tk b ∧ tk b ≤ 29) (c4 : 100 ≤ tk c) (ex : x = a + 3) : xKsL tk h nt d x (o + 1) (L ++ [(tk a - 10, tk b - 27, tk c - 100)]) r := by
  subst eb
  subst ec
  subst ex
  obtain ⟨P, r1, h1, h2, h3, h4⟩ := k
  have e := h3.det (xQ.cmp c1 c2 c3 c4)
  subst e
  exact ⟨P, h1, h2, h4⟩
theorem xKoL.nnt (k : xKoL tk h nt d a o L r) (e : tk a = 7) (c2 : ¬ (50 ≤ o ∨ 10 < d + 1)) (hu : h' nt = 12) (hf : ∀ i, 0 ≤ i → i ≠ nt → h' i = h i) : xKoL tk h' (nt + 1) (d + 1) (a + 1) (o + 1) L r := by
  obtain ⟨P, r1, h1, h2, h3, h4⟩ := k
  obtain ⟨q, w1, w2⟩ := xKm.nt e c2 h3 h4
  exact ⟨12 :: P, q, h1.push hu hf (by omega), by rw [xcn9.i (Or.inl rfl)]; omega, w1, w2⟩
theorem xKoL.par (k : xKoL tk h nt d a o L r) (e : tk a = 25) (c2 : ¬ (50 ≤ o ∨ 10 < d + 1)) (hu : h' nt = 15) (hf : ∀ i, 0 ≤ i → i ≠ nt → h' i = h i) : xKoL tk h' (nt + 1) (d + 1) (a + 1) (o + 1) L r := by
  obtain ⟨P, r1, h1, h2, h3, h4⟩ := k
  obtain ⟨q, w1, w2⟩ := xKm.par e c2 h3 h4
  exact ⟨15 :: P, q, h1.push hu hf (by omega), by rw [xcn9.i (Or.inr rfl)]; omega, w1, w2⟩
theorem xKsL.nots : ∀ (k : Nat) (nt d : Int) (L : List xS3), nt - b = k → 0 ≤ b → xKsL tk h nt d a o L r → (∀ j, b ≤ j → j < nt → h j = 12) → xKsL tk h b (d - (nt - b)) a o (L ++ xdl9 h k nt) r := by
  intro k
  induction k with
  | zero =>
    intro nt d L e hb w _
    have e' : nt = b := by omega
    subst e'
    rw [show d - (nt - nt) = d by omega]
    show xKsL tk h nt d a o (L ++ []) r
    rw [List.append_nil]
    exact w
  | succ k ih =>
    intro nt d L e hb w hr
    obtain ⟨P, h1, h2, h3⟩ := w
    obtain ⟨p, e1, e2, e3, e4⟩ := h1.top (by omega)
    have e12 := hr (nt - 1) (by omega) (by omega)
    rw [e12] at e1
    subst e1
    have v : xKsL tk h (nt - 1) (d - 1) a o (L ++ [(12, 0, 0)]) r := by
      refine ⟨p, e4, ?_, ?_⟩
      · rw [xcn9.i (Or.inl rfl)] at h2; omega
      · have w := xKm.dn h3
        rw [show d + 1 - 1 = d - 1 + 1 by omega] at w
        exact w
    have u := ih (nt - 1) (d - 1) _ (by omega) hb v (fun j q1 q2 => hr j q1 (by omega))
    rw [show d - 1 - (nt - 1 - b) = d - (nt - b) by omega, List.append_assoc] at u
    show xKsL tk h b (d - (nt - b)) a o (L ++ ((h (nt - 1), 0, 0) :: xdl9 h k (nt - 1))) r
    rw [e12]
    exact u
theorem xKsL.drop : ∀ (k : Nat) (P : List Int) (n : Int) (L : List xS3), n - b = k + 1 → 0 ≤ b → xPz h P n → (∀ j, b ≤ j → j < n → 13 ≤ h j ∧ h j ≤ 14) → xKe tk P d (0, a, o, L) r → tk a ≠ 8 → tk a ≠ 9 → ∃ P' : List Int, xPz h P' b ∧ xcn9 P' = xcn9 P ∧ xKf tk P' d (0, a, o, L ++ xdl9 h (k + 1) n) r := by
  intro k
  induction k with
  | zero =>
    intro P n L e hb w hr hk e8 e9
    obtain ⟨p, e1, e2, e3, e4⟩ := w.top (by omega)
    have q := hr (n - 1) (by omega) (by omega)
    subst e1
    have v := xKe.drop (by omega) hk e8 e9
    refine ⟨p, ?_, (xcn9.o (by omega)).symm, v⟩
    rw [show b = n - 1 by omega]
    exact e4
  | succ k ih =>
    intro P n L e hb w hr hk e8 e9
    obtain ⟨p, e1, e2, e3, e4⟩ := w.top (by omega)
    have q := hr (n - 1) (by omega) (by omega)
    subst e1
    have v := xKe.drop (by omega) hk e8 e9
    obtain ⟨P', u1, u2, u3⟩ := ih p (n - 1) _ (by omega) hb e4 (fun j q1 q2 => hr j q1 (by omega)) (Or.inr v) e8 e9
    rw [List.append_assoc] at u3
    exact ⟨P', u1, by rw [u2]; exact (xcn9.o (by omega)).symm, u3⟩
theorem xKsL.shut (w : xKsL tk h nt d a o L r) (hn : nt = 0 ∨ h (nt - 1) ≠ 12) (ho : xOp nt h) (e : tk a = 26) (hb : 0 ≤ b ∧ b ≤ nt) (hs : b = 0 ∨ h (b - 1) < 13 ∨ 14 < h (b - 1)) (hr : ∀ k, b ≤ k → k < nt → 13 ≤ h k ∧ h k ≤ 14) : 1 ≤ b ∧ xKsL tk h (b - 1) (d - 1) (a + 1) o (L ++ xdl9 h (nt - b).toNat nt) r := by
  have b1 : 1 ≤ b := by
    obtain ⟨k, k1, k2, k3⟩ := ho
    by_cases q : k < b
    · omega
    · have := hr k (by omega) k2; omega
  refine ⟨b1, ?_⟩
  obtain ⟨P, h1, h2, h3⟩ := w
  have key : ∃ P' : List Int, xPz h P' b ∧ xcn9 P' = xcn9 P ∧ xKe tk P' (d + 1) (0, a, o, L ++ xdl9 h (nt - b).toNat nt) r ∧ h (b - 1) ≠ 12 := by
    by_cases q : b = nt
    · subst q
      rw [show (b - b).toNat = 0 by omega]
      refine ⟨P, h1, rfl, Or.inl ?_, by omega⟩
      show xKm tk P 0 (d + 1) (0, a, o, L ++ []) r
      rw [List.append_nil]
      exact h3
    · obtain ⟨P', u1, u2, u3⟩ := xKsL.drop (nt - b - 1).toNat P nt L (by omega) hb.1 h1 hr (Or.inl h3) (by omega) (by omega)
      rw [show (nt - b - 1).toNat + 1 = (nt - b).toNat by omega] at u3
      refine ⟨P', u1, u2, Or.inr u3, fun q2 => ?_⟩
      obtain ⟨p, e1, _⟩ := u1.top (by omega)
      rw [e1] at u3
      have := u3.hd
      omega
  obtain ⟨P', u1, u2, u3, u4⟩ := key
  obtain ⟨p, e1, e2, e3, e4⟩ := u1.top (by omega)
  have e15 : h (b - 1) = 15 := by omega
  rw [e15] at e1
  subst e1
  have v := xKm.shut (xKe.shut u3 (by omega) (by omega)) e
  rw [xcn9.i (Or.inr rfl)] at u2
  refine ⟨p, e4, by omega, ?_⟩
  rw [show d - 1 + 1 = d + 1 - 1 by omega]
  exact v
theorem xKeL.fin : ∀ (P : List Int) (n : Int) (L : List xS3), xPz h P n → (∀ y ∈ P, 12 ≤ y ∧ y ≤ 15) → ¬ 15 ∈ P → (∀ p, P ≠ 12 :: p) → xKe tk P d (0, a, o, L) r → tk a ≠ 8 → tk a ≠ 9 → r = (0, a, o, L ++ xdl9 h n.toNat n) := by
  intro P
  induction P with
  | nil =>
    intro n L hz _ _ _ hk e8 e9
    have e : n = 0 := hz
    rw [e]
    show r = (0, a, o, L ++ [])
    rw [List.append_nil]
    exact xKe.nil hk e8 e9
  | cons y p ih =>
    intro n L hz hy q h12 hk e8 e9
    obtain ⟨z1, z2, z3, z4, z5⟩ := hz
    have n12 : y ≠ 12 := fun z => h12 p (by rw [z])
    have n15 : y ≠ 15 := fun z => q (by rw [z]; exact List.mem_cons_self ..)
    have v := xKe.drop (by omega) hk e8 e9
    have u := ih (n - 1) _ z5 (fun z hz => hy z (List.mem_cons_of_mem _ hz)) (fun z => q (List.mem_cons_of_mem _ z)) ?_ (Or.inr v) e8 e9
    · rw [u, List.append_assoc, show n.toNat = (n - 1).toNat + 1 by omega]
      show (0, a, o, L ++ ([(y, 0, 0)] ++ xdl9 h (n - 1).toNat (n - 1))) = ((0 : Int), a, o, L ++ ((h (n - 1), 0, 0) :: xdl9 h (n - 1).toNat (n - 1)))
      rw [z4]
      rfl
    · intro p' z
      rw [z] at v
      have := v.hd
      omega
theorem xKeL.all : ∀ (P : List Int) (n : Int) (L : List xS3), xPz h P n → (∀ y ∈ P, 12 ≤ y ∧ y ≤ 15) → ¬ 15 ∈ P → (∀ p, P ≠ 12 :: p) → xKe tk P d (0, a, o, L) r → tk a ≠ 8 → tk a ≠ 9 → ∀ k, 0 ≤ k → k < n → 13 ≤ h k ∧ h k ≤ 14 := by
  intro P
  induction P with
  | nil =>
    intro n L hz _ _ _ hk e8 e9 k q1 q2
    have e : n = 0 := hz
    omega
  | cons y p ih =>
    intro n L hz hy q h12 hk e8 e9 k q1 q2
    obtain ⟨z1, z2, z3, z4, z5⟩ := hz
    have n12 : y ≠ 12 := fun z => h12 p (by rw [z])
    have n15 : y ≠ 15 := fun z => q (by rw [z]; exact List.mem_cons_self ..)
    have v := xKe.drop (by omega) hk e8 e9
    by_cases ek : k = n - 1
    · rw [ek, z4]; omega
    · refine ih (n - 1) _ z5 (fun z hz => hy z (List.mem_cons_of_mem _ hz)) (fun z => q (List.mem_cons_of_mem _ z)) ?_ (Or.inr v) e8 e9 k q1 (by omega)
      intro p' z
      rw [z] at v
      have := v.hd
      omega
theorem xKsL.all (w : xKsL tk h nt d a o L r) (hn : nt = 0 ∨ h (nt - 1) ≠ 12) (ho : ¬ xOp nt h) (e8 : tk a ≠ 8) (e9 : tk a ≠ 9) : ∀ k, 0 ≤ k → k < nt → 13 ≤ h k ∧ h k ≤ 14 := by
  obtain ⟨P, h1, h2, h3⟩ := w
  exact xKeL.all P nt L h1 (xPz.rng P nt h1) (fun q => ho ((xPz.op P nt h1).mp q)) (xKs.n12 h1 hn) (Or.inl h3) e8 e9
theorem xKsL.fin (w : xKsL tk h nt d a o L r) (hn : nt = 0 ∨ h (nt - 1) ≠ 12) (ho : ¬ xOp nt h) (e8 : tk a ≠ 8) (e9 : tk a ≠ 9) : r = (0, a, o, L ++ xdl9 h nt.toNat nt) := by
  obtain ⟨P, h1, h2, h3⟩ := w
  exact xKeL.fin P nt L h1 (xPz.rng P nt h1) (fun q => ho ((xPz.op P nt h1).mp q)) (xKs.n12 h1 hn) (Or.inl h3) e8 e9
theorem xdl9.z {n : Int} (e : b = n) : L ++ xdl9 h (n - b).toNat n = L := by
  rw [show (n - b).toNat = 0 by omega]
  exact List.append_nil L
theorem xdl9.one {n : Int} (e : b = n - 1) : L ++ xdl9 h (n - b).toNat n = L ++ [(h (n - 1), 0, 0)] := by
  rw [show (n - b).toNat = 0 + 1 by omega]
  rfl
theorem xKsL.and (w : xKsL tk h nt d a o L r) (hn : nt = 0 ∨ h (nt - 1) ≠ 12) (e : tk a = 8) (hb : 0 ≤ b ∧ b ≤ nt) (hs : b = 0 ∨ h (b - 1) < 13 ∨ 13 < h (b - 1)) (hr : ∀ k, b ≤ k → k < nt → 13 ≤ h k ∧ h k ≤ 13) (hu : h' b = 13) (hf : ∀ i, 0 ≤ i → i ≠ b → h' i = h i) : xKoL tk h' (b + 1) d (a + 1) o (L ++ xdl9 h (nt - b).toNat nt) r := by
  obtain ⟨P, h1, h2, h3⟩ := w
  have nn := h1.nn
  by_cases z : nt = 0
  · have e0 := h1.nil z
    subst e0
    obtain ⟨r1, w1, w2⟩ := xKm.and e (Or.inl rfl) h3
    have hb0 : b = nt := by omega
    rw [xdl9.z hb0]
    subst hb0
    exact ⟨[13], r1, xPz.push h1 hu hf (by omega), by rw [xcn9.o (Or.inl rfl)]; exact h2, w1, w2⟩
  · obtain ⟨p, e1, e2, e3, e4⟩ := h1.top (by omega)
    by_cases c : h (nt - 1) = 13
    · have b1 := xdrb1 (m := 13) hb.2 (by omega) hs (by omega)
      rw [c] at e1
      subst e1
      obtain ⟨r1, w1, w2⟩ := xKm.and2 e h3
      have bb : b = nt - 1 := by
        by_cases zz : nt - 1 = 0
        · omega
        · obtain ⟨p2, f1, _⟩ := e4.top (by omega)
          unfold xKm at h3
          rw [if_pos rfl, if_neg (by decide), if_pos rfl] at h3
          obtain ⟨r2, _, q⟩ := h3
          rw [f1] at q
          have g := xKf.hd (Or.inl q)
          exact xdrb0 (m := 13) b1 (fun k q1 q2 => hr k q1 (by omega)) (by omega)
      rw [xdl9.one bb, c]
      subst bb
      exact ⟨13 :: p, r1, xPz.push e4 hu hf (by omega), h2, w1, w2⟩
    · have bb := xdrb0 (m := 13) hb.2 hr (by omega)
      rw [xdl9.z bb]
      subst bb
      have hp : P = [] ∨ ∃ q, P = 14 :: q ∨ P = 15 :: q := Or.inr ⟨p, by
        rcases (show h (b - 1) = 14 ∨ h (b - 1) = 15 by omega) with q | q
        · rw [q] at e1; exact Or.inl e1
        · rw [q] at e1; exact Or.inr e1⟩
      obtain ⟨r1, w1, w2⟩ := xKm.and e hp h3
      exact ⟨13 :: P, r1, xPz.push h1 hu hf (by omega), by rw [xcn9.o (Or.inl rfl)]; exact h2, w1, w2⟩
theorem xKoL.or1 {P : List Int} {n : Int} (h1 : xPz h P n) (h2 : d = xcn9 P) (h3 : xKm tk P 1 (d + 1) (0, a, o, L) r) (e : tk a = 9) (hb : 0 ≤ b ∧ b ≤ n) (hs : b = 0 ∨ h (b - 1) < 13 ∨ 14 < h (b - 1)) (hr : ∀ k, b ≤ k → k < n → 13 ≤ h k ∧ h k ≤ 14) (hu : h' b = 14) (hf : ∀ i, 0 ≤ i → i ≠ b → h' i = h i) : xKoL tk h' (b + 1) d (a + 1) o (L ++ xdl9 h (n - b).toNat n) r := by
  have nn := h1.nn
  by_cases z : n = 0
  · have e0 := h1.nil z
    subst e0
    obtain ⟨r1, w1, w2⟩ := xKm.or e (Or.inl rfl) h3
    have hb0 : b = n := by omega
    rw [xdl9.z hb0]
    subst hb0
    exact ⟨[14], r1, xPz.push h1 hu hf (by omega), by rw [xcn9.o (Or.inr rfl)]; exact h2, w1, w2⟩
  · obtain ⟨p, e1, e2, e3, e4⟩ := h1.top (by omega)
    have g : h (n - 1) = 14 ∨ h (n - 1) = 15 := by
      rw [e1] at h3
      exact xKf.hd (Or.inl h3)
    rcases g with c | c
    · have b1 := xdrb1 (m := 14) hb.2 (by omega) hs (by omega)
      rw [c] at e1
      subst e1
      obtain ⟨r1, w1, w2⟩ := xKm.or2 e h3
      have bb : b = n - 1 := by
        by_cases zz : n - 1 = 0
        · omega
        · obtain ⟨p2, f1, _⟩ := e4.top (by omega)
          unfold xKm at h3
          rw [if_neg (by decide), if_pos rfl, if_pos rfl] at h3
          obtain ⟨r2, _, q⟩ := h3
          rw [f1] at q
          have g := q.hd2
          exact xdrb0 (m := 14) b1 (fun k q1 q2 => hr k q1 (by omega)) (by omega)
      rw [xdl9.one bb, c]
      subst bb
      exact ⟨14 :: p, r1, xPz.push e4 hu hf (by omega), h2, w1, w2⟩
    · have bb := xdrb0 (m := 14) hb.2 hr (by omega)
      rw [xdl9.z bb]
      subst bb
      rw [c] at e1
      obtain ⟨r1, w1, w2⟩ := xKm.or e (Or.inr ⟨p, e1⟩) h3
      exact ⟨14 :: P, r1, xPz.push h1 hu hf (by omega), by rw [xcn9.o (Or.inr rfl)]; exact h2, w1, w2⟩
theorem xKsL.or (w : xKsL tk h nt d a o L r) (hn : nt = 0 ∨ h (nt - 1) ≠ 12) (e : tk a = 9) (hb : 0 ≤ b ∧ b ≤ nt) (hs : b = 0 ∨ h (b - 1) < 13 ∨ 14 < h (b - 1)) (hr : ∀ k, b ≤ k → k < nt → 13 ≤ h k ∧ h k ≤ 14) (hu : h' b = 14) (hf : ∀ i, 0 ≤ i → i ≠ b → h' i = h i) : xKoL tk h' (b + 1) d (a + 1) o (L ++ xdl9 h (nt - b).toNat nt) r := by
  obtain ⟨P, h1, h2, h3⟩ := w
  have nn := h1.nn
  have e8 : tk a ≠ 8 := by omega
  by_cases z : nt = 0
  · have e0 := h1.nil z
    subst e0
    exact xKoL.or1 h1 h2 (xKm.d0 e8 (Or.inl rfl) h3) e hb hs hr hu hf
  · obtain ⟨p, e1, e2, e3, e4⟩ := h1.top (by omega)
    by_cases c : h (nt - 1) = 13
    · have b1 := xdrb1 (m := 14) hb.2 (by omega) hs (by omega)
      rw [c] at e1
      subst e1
      rw [xcn9.o (Or.inl rfl)] at h2
      have v := xKoL.or1 e4 h2 (xKm.da e8 h3) e ⟨hb.1, b1⟩ hs (fun k q1 q2 => hr k q1 (by omega)) hu hf
      rw [List.append_assoc] at v
      rw [show (nt - b).toNat = (nt - 1 - b).toNat + 1 by omega]
      show xKoL tk h' (b + 1) d (a + 1) o (L ++ ((h (nt - 1), 0, 0) :: xdl9 h (nt - 1 - b).toNat (nt - 1))) r
      rw [c]
      exact v
    · have hp : P = [] ∨ ∃ q, P = 14 :: q ∨ P = 15 :: q := Or.inr ⟨p, by
        rcases (show h (nt - 1) = 14 ∨ h (nt - 1) = 15 by omega) with q | q
        · rw [q] at e1; exact Or.inl e1
        · rw [q] at e1; exact Or.inr e1⟩
      exact xKoL.or1 h1 h2 (xKm.d0 e8 hp h3) e hb hs hr hu hf
end XKL
def xDe9 (pc ps pn pc' ps' pn' h : Int → Int) (np n b : Int) : Prop := (∀ i, 0 ≤ i → i < 1200 + np → pc' i = pc i ∧ ps' i = ps i ∧ pn' i = pn i) ∧ ∀ j, 0 ≤ j → j < n - b → pc' (1200 + np + j) = h (n - 1 - j)
section XDE
variable {pc ps pn pc' ps' pn' h : Int → Int} {np n b F : Int} {L : List xS3}
theorem xDe9.rf : xDe9 pc ps pn pc ps pn h np n n := ⟨fun i _ _ => ⟨rfl, rfl, rfl⟩, fun j q1 q2 => by omega⟩
theorem xDe9.nx {pd qs qn : Int → Int} (w : xDe9 pc ps pn pd qs qn h np n b) (hb : b ≤ n) (h0 : 0 ≤ np) (u : xUp pc' pd (1200 + (np + (n - b))) (h (b - 1))) (us : ∀ i, 0 ≤ i → i ≠ 1200 + (np + (n - b)) → ps' i = qs i) (un : ∀ i, 0 ≤ i → i ≠ 1200 + (np + (n - b)) → pn' i = qn i) : xDe9 pc ps pn pc' ps' pn' h np n (b - 1) := by
  refine ⟨fun i q1 q2 => ?_, fun j q1 q2 => ?_⟩
  · obtain ⟨a1, a2, a3⟩ := w.1 i q1 q2
    exact ⟨by rw [u.2 i q1 (by omega)]; exact a1, by rw [us i q1 (by omega)]; exact a2, by rw [un i q1 (by omega)]; exact a3⟩
  · by_cases e : j = n - b
    · rw [show 1200 + np + j = 1200 + (np + (n - b)) by omega, u.1, show n - 1 - j = b - 1 by omega]
    · rw [u.2 _ (by omega) (by omega)]; exact w.2 j q1 (by omega)
theorem xLm.cg {c : List xS3} {B : Int} (w : xLm pc ps pn B c) (hc : ∀ j : Int, 0 ≤ j → j < c.length → pc' (B + j) = pc (B + j) ∧ ps' (B + j) = ps (B + j) ∧ pn' (B + j) = pn (B + j)) : xLm pc' ps' pn' B c := fun j q1 q2 => by
  obtain ⟨a1, a2, a3⟩ := hc j q1 q2
  rw [a1, a2, a3]
  exact w j q1 q2
theorem xLm.nil {B : Int} : xLm pc ps pn B [] := fun j q1 q2 => absurd q2 (by show ¬ (j < ((0 : Nat) : Int)); omega)
theorem xLm.app {c e : List xS3} {B : Int} (w : xLm pc ps pn B c) (v : xLm pc ps pn (B + c.length) e) : xLm pc ps pn B (c ++ e) := fun j q1 q2 => by
  rw [List.length_append] at q2
  by_cases k : j < c.length
  · have g : (c ++ e).getD j.toNat (0, 0, 0) = c.getD j.toNat (0, 0, 0) := by
      rw [List.getD_eq_getElem?_getD, List.getD_eq_getElem?_getD, List.getElem?_append_left (by omega)]
    rw [g]
    exact w j q1 k
  · have g : (c ++ e).getD j.toNat (0, 0, 0) = e.getD (j - c.length).toNat (0, 0, 0) := by
      rw [List.getD_eq_getElem?_getD, List.getD_eq_getElem?_getD, List.getElem?_append_right (by omega), show j.toNat - c.length = (j - c.length).toNat by omega]
    have u := v (j - c.length) (by omega) (by omega)
    rw [show B + c.length + (j - c.length) = B + j by omega] at u
    rw [g]
    exact u
theorem xLm.de (w : xLm pc ps pn (1200 + F) L) (e : np = F + L.length) (hF : 0 ≤ F) (hb : b ≤ n) (v : xDe9 pc ps pn pc' ps' pn' h np n b) (hr : ∀ k, b ≤ k → k < n → 12 ≤ h k) : xLm pc' ps' pn' (1200 + F) (L ++ xdl9 h (n - b).toNat n) ∧ np + (n - b) = F + (L ++ xdl9 h (n - b).toNat n).length := by
  refine ⟨xLm.app (w.cg fun j q1 q2 => v.1 _ (by omega) (by omega)) fun j q1 q2 => ?_, ?_⟩
  · rw [xdl9.len] at q2
    have c : ((j.toNat : Nat) : Int) = j := by omega
    rw [xdl9.at _ _ _ (by omega), c]
    have r := hr (n - 1 - j) (by omega) (by omega)
    refine ⟨?_, fun q => ?_, fun q3 q4 => ?_⟩
    · rw [show 1200 + F + L.length + j = 1200 + np + j by omega]; exact v.2 j q1 (by omega)
    · have : h (n - 1 - j) < 3 := q
      omega
    · have : h (n - 1 - j) ≤ 11 := q4
      omega
  · rw [List.length_append, xdl9.len]
    omega
theorem xLm.put {x y z : Int} (w : xLm pc ps pn (1200 + F) L) (e : np = F + L.length) (hF : 0 ≤ F) (u : xUp pc' pc (1200 + np) x) (us : xUp ps' ps (1200 + np) y) (un : xUp pn' pn (1200 + np) z) {s : xS3} (h1 : s.1 = x) (h2 : x < 3 → s.2.1 = 2 ∧ s.2.2 = 0) (h3 : 3 ≤ x → x ≤ 11 → y = 60 + s.2.1 ∧ z = s.2.2) : xLm pc' ps' pn' (1200 + F) (L ++ [s]) ∧ np + 1 = F + (L ++ [s]).length := by
  refine ⟨xLm.app (w.cg fun j q1 q2 => ⟨u.2 _ (by omega) (by omega), us.2 _ (by omega) (by omega), un.2 _ (by omega) (by omega)⟩) fun j q1 q2 => ?_, ?_⟩
  · have q3 : j < ((1 : Nat) : Int) := q2
    have j0 : j = 0 := by omega
    subst j0
    rw [show 1200 + F + (L.length : Int) + 0 = 1200 + np by omega]
    show pc' (1200 + np) = s.1 ∧ (s.1 < 3 → s.2.1 = 2 ∧ s.2.2 = 0) ∧ (3 ≤ s.1 → s.1 ≤ 11 → ps' (1200 + np) = 60 + s.2.1 ∧ pn' (1200 + np) = s.2.2)
    rw [u.1, us.1, un.1, h1]
    exact ⟨rfl, h2, h3⟩
  · rw [List.length_append]
    show np + 1 = F + ((L.length + 1 : Nat) : Int)
    omega
end XDE
def xKsC (tk h pc ps pn : Int → Int) (F np nt d a o : Int) (r : xRr9) : Prop := ∃ L : List xS3, xKsL tk h nt d a o L r ∧ xLm pc ps pn (1200 + F) L ∧ np = F + L.length
def xKoC (tk h pc ps pn : Int → Int) (F np nt d a o : Int) (r : xRr9) : Prop := ∃ L : List xS3, xKoL tk h nt d a o L r ∧ xLm pc ps pn (1200 + F) L ∧ np = F + L.length
section XKC
variable {tk h h' pc ps pn pc' ps' pn' : Int → Int} {F np np1 nt d a o b c x y z m : Int} {r : xRr9}
theorem xKoC.k (w : xKoC tk h pc ps pn F np nt d a o r) : xKo tk h nt d a o r := by
  obtain ⟨L, w1, w2, w3⟩ := w
  exact w1.k
theorem xKsC.k (w : xKsC tk h pc ps pn F np nt d a o r) : xKs tk h nt d a o r := by
  obtain ⟨L, w1, w2, w3⟩ := w
  exact w1.k
theorem xKoC.start (w : xQ tk 2 1 a o [] r) (hn : nt = 0) (hd : d = 0) (e : np = F) : xKoC tk h pc ps pn F np nt d a o r := ⟨[], xKoL.start w hn hd, xLm.nil, by show np = F + ((0 : Nat) : Int); omega⟩
theorem xKoC.flag (k : xKoC tk h pc ps pn F np nt d a o r) (hF : 0 ≤ F) (c1 : 10 ≤ tk a ∧ tk a ≤ 12) (c2 : ¬ (50 ≤ o ∨ 10 < d + 1)) (eb : b = a + 1) (u : xUp pc' pc (1200 + np) x) (us : xUp ps' ps (1200 + np) y) (un : xUp pn' pn (1200 + np) z) (ex : x = tk a - 10) (en : np1 = np + 1) : xKsC tk h pc' ps' pn' F np1 nt d b (o + 1) r := by
  obtain ⟨L, w1, w2, w3⟩ := k
  obtain ⟨v1, v2⟩ := xLm.put w2 w3 hF u us un (s := (tk a - 10, 2, 0)) ex.symm (fun _ => ⟨rfl, rfl⟩) (fun q1 _ => by omega)
  exact ⟨_, w1.flag c1 c2 eb, v1, en.trans v2⟩
theorem xKoC.cmp (k : xKoC tk h pc ps pn F np nt d a o r) (hF : 0 ≤ F) (c1 : 13 ≤ tk a ∧ tk a ≤ 21) (c2 : ¬ (50 ≤ o ∨ 10 < d + 1)) (eb : b = a + 1) (ec : c = a + 2) (c3 : 27 ≤ tk b ∧ tk b ≤ 29) (c4 : 100 ≤ tk c) (em : m = a + 3) (u : xUp pc' pc (1200 + np) x) (us : xUp ps' ps (1200 + np) y) (un : xUp pn' pn (1200 + np) z) (ex : x = tk a - 10) (ey : y = 60 + (tk b - 27)) (ez : z = tk c - 100) (en : np1 = np + 1) : xKsC tk h pc' ps' pn' F np1 nt d m (o + 1) r := by
  obtain ⟨L, w1, w2, w3⟩ := k
  obtain ⟨v1, v2⟩ := xLm.put w2 w3 hF u us un (s := (tk a - 10, tk b - 27, tk c - 100)) ex.symm (fun q => by omega) (fun _ _ => ⟨ey, ez⟩)
  exact ⟨_, w1.cmp c1 c2 eb ec c3 c4 em, v1, en.trans v2⟩
theorem xKoC.nnt (k : xKoC tk h pc ps pn F np nt d a o r) (e : tk a = 7) (c2 : ¬ (50 ≤ o ∨ 10 < d + 1)) (hu : h' nt = 12) (hf : ∀ i, 0 ≤ i → i ≠ nt → h' i = h i) : xKoC tk h' pc ps pn F np (nt + 1) (d + 1) (a + 1) (o + 1) r := by
  obtain ⟨L, w1, w2, w3⟩ := k
  exact ⟨L, w1.nnt e c2 hu hf, w2, w3⟩
theorem xKoC.par (k : xKoC tk h pc ps pn F np nt d a o r) (e : tk a = 25) (c2 : ¬ (50 ≤ o ∨ 10 < d + 1)) (hu : h' nt = 15) (hf : ∀ i, 0 ≤ i → i ≠ nt → h' i = h i) : xKoC tk h' pc ps pn F np (nt + 1) (d + 1) (a + 1) (o + 1) r := by
  obtain ⟨L, w1, w2, w3⟩ := k
  exact ⟨L, w1.par e c2 hu hf, w2, w3⟩
theorem xKsC.nots (k : xKsC tk h pc ps pn F np nt d a o r) (hF : 0 ≤ F) (hb : 0 ≤ b ∧ b ≤ nt) (hr : ∀ j, b ≤ j → j < nt → h j = 12) (de : xDe9 pc ps pn pc' ps' pn' h np nt b) (en : np1 = np + (nt - b)) (ec : c = d - (nt - b)) : xKsC tk h pc' ps' pn' F np1 b c a o r := by
  obtain ⟨L, w1, w2, w3⟩ := k
  obtain ⟨v1, v2⟩ := xLm.de w2 w3 hF hb.2 de (fun j q1 q2 => by have := hr j q1 q2; omega)
  exact ⟨_, by rw [ec]; exact xKsL.nots (nt - b).toNat nt d L (by omega) hb.1 w1 hr, v1, en.trans v2⟩
theorem xKsC.shut (k : xKsC tk h pc ps pn F np nt d a o r) (hF : 0 ≤ F) (hn : nt = 0 ∨ h (nt - 1) ≠ 12) (ho : xOp nt h) (e : tk a = 26) (hb : 0 ≤ b ∧ b ≤ nt) (hs : b = 0 ∨ h (b - 1) < 13 ∨ 14 < h (b - 1)) (hr : ∀ k, b ≤ k → k < nt → 13 ≤ h k ∧ h k ≤ 14) (de : xDe9 pc ps pn pc' ps' pn' h np nt b) (en : np1 = np + (nt - b)) : 1 ≤ b ∧ xKsC tk h pc' ps' pn' F np1 (b - 1) (d - 1) (a + 1) o r := by
  obtain ⟨L, w1, w2, w3⟩ := k
  obtain ⟨v1, v2⟩ := xLm.de w2 w3 hF hb.2 de (fun j q1 q2 => by have := hr j q1 q2; omega)
  obtain ⟨u1, u2⟩ := w1.shut hn ho e hb hs hr
  exact ⟨u1, _, u2, v1, en.trans v2⟩
theorem xKsC.and (k : xKsC tk h pc ps pn F np nt d a o r) (hF : 0 ≤ F) (hn : nt = 0 ∨ h (nt - 1) ≠ 12) (e : tk a = 8) (hb : 0 ≤ b ∧ b ≤ nt) (hs : b = 0 ∨ h (b - 1) < 13 ∨ 13 < h (b - 1)) (hr : ∀ k, b ≤ k → k < nt → 13 ≤ h k ∧ h k ≤ 13) (hu : h' b = 13) (hf : ∀ i, 0 ≤ i → i ≠ b → h' i = h i) (de : xDe9 pc ps pn pc' ps' pn' h np nt b) (en : np1 = np + (nt - b)) : xKoC tk h' pc' ps' pn' F np1 (b + 1) d (a + 1) o r := by
  obtain ⟨L, w1, w2, w3⟩ := k
  obtain ⟨v1, v2⟩ := xLm.de w2 w3 hF hb.2 de (fun j q1 q2 => by have := hr j q1 q2; omega)
  exact ⟨_, w1.and hn e hb hs hr hu hf, v1, en.trans v2⟩
theorem xKsC.or (k : xKsC tk h pc ps pn F np nt d a o r) (hF : 0 ≤ F) (hn : nt = 0 ∨ h (nt - 1) ≠ 12) (e : tk a = 9) (hb : 0 ≤ b ∧ b ≤ nt) (hs : b = 0 ∨ h (b - 1) < 13 ∨ 14 < h (b - 1)) (hr : ∀ k, b ≤ k → k < nt → 13 ≤ h k ∧ h k ≤ 14) (hu : h' b = 14) (hf : ∀ i, 0 ≤ i → i ≠ b → h' i = h i) (de : xDe9 pc ps pn pc' ps' pn' h np nt b) (en : np1 = np + (nt - b)) : xKoC tk h' pc' ps' pn' F np1 (b + 1) d (a + 1) o r := by
  obtain ⟨L, w1, w2, w3⟩ := k
  obtain ⟨v1, v2⟩ := xLm.de w2 w3 hF hb.2 de (fun j q1 q2 => by have := hr j q1 q2; omega)
  exact ⟨_, w1.or hn e hb hs hr hu hf, v1, en.trans v2⟩
theorem xKsC.fin (k : xKsC tk h pc ps pn F np nt d a o r) (hF : 0 ≤ F) (hn : nt = 0 ∨ h (nt - 1) ≠ 12) (ho : ¬ xOp nt h) (e8 : tk a ≠ 8) (e9 : tk a ≠ 9) (hb : 0 ≤ b ∧ b ≤ nt) (hs : b = 0 ∨ h (b - 1) < 13 ∨ 14 < h (b - 1)) (hr : ∀ k, b ≤ k → k < nt → 13 ≤ h k ∧ h k ≤ 14) (de : xDe9 pc ps pn pc' ps' pn' h np nt b) (en : np1 = np + (nt - b)) : (r.1 = 0 ∧ r.2.1 = a ∧ r.2.2.1 = o) ∧ d = 0 ∧ xLm pc' ps' pn' (1200 + F) r.2.2.2 ∧ np1 = F + r.2.2.2.length := by
  obtain ⟨L, w1, w2, w3⟩ := k
  have b0 : b = 0 := by
    rcases hs with q | q
    · exact q
    · by_cases z : b = 0
      · exact z
      · have := w1.all hn ho e8 e9 (b - 1) (by omega) (by omega)
        omega
  obtain ⟨v1, v2⟩ := xLm.de w2 w3 hF hb.2 de (fun j q1 q2 => by have := hr j q1 q2; omega)
  have f := w1.k.fin hn ho e8 e9
  have e := w1.fin hn ho e8 e9
  refine ⟨f.1, f.2, ?_⟩
  rw [show (nt - b).toNat = nt.toNat by omega] at v1 v2
  rw [e]
  exact ⟨v1, en.trans v2⟩
end XKC
def xLq3 (m : Int) (pc' ps' pn' pc ps pn : Int → Int) : Prop := xLow m pc' pc ∧ xLow m ps' ps ∧ xLow m pn' pn
theorem xLq3.rf {m : Int} {pc ps pn : Int → Int} : xLq3 m pc ps pn pc ps pn := ⟨xLow.rf, xLow.rf, xLow.rf⟩
theorem xLq3.tr {m m' : Int} {pc ps pn pc' ps' pn' pd qs qn : Int → Int} (h : xLq3 m pc' ps' pn' pc ps pn) (h2 : xLq3 m' pd qs qn pc' ps' pn') (hm : m ≤ m') : xLq3 m pd qs qn pc ps pn := ⟨xLow.tr h.1 h2.1 hm, xLow.tr h.2.1 h2.2.1 hm, xLow.tr h.2.2 h2.2.2 hm⟩
theorem xLq3.up {m j x y z : Int} {pc ps pn pc' ps' pn' : Int → Int} (u : xUp pc' pc j x) (us : xUp ps' ps j y) (un : xUp pn' pn j z) (hm : m ≤ j) : xLq3 m pc' ps' pn' pc ps pn := ⟨xLow.up xLow.rf u hm, xLow.up xLow.rf us hm, xLow.up xLow.rf un hm⟩
theorem xDe9.l3 {pc ps pn pc' ps' pn' h : Int → Int} {np n b m : Int} (w : xDe9 pc ps pn pc' ps' pn' h np n b) (hm : m ≤ 1200 + np) : xLq3 m pc' ps' pn' pc ps pn := ⟨fun i q1 q2 => (w.1 i q1 (by omega)).1, fun i q1 q2 => (w.1 i q1 (by omega)).2.1, fun i q1 q2 => (w.1 i q1 (by omega)).2.2⟩
