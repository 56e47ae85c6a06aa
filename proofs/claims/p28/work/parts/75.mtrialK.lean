
def xpt9 {α : Type} (f : Int → α) (n : Int) (v : α) : Int → α := fun k => if k = n then v else f k
theorem xpt9.s {α : Type} {f : Int → α} {n : Int} {v : α} : xpt9 f n v n = v := if_pos rfl
theorem xpt9.o {α : Type} {f : Int → α} {n k : Int} {v : α} (h : k ≠ n) : xpt9 f n v k = f k := if_neg h
def xAp (S : xT) (g : xG) (d dk dn df db ds a : Nat) : Prop := S a = some (11, 0) ∧ a ≠ d ∧ g a 3 ≠ .ref dk ∧ g a 4 ≠ .ref dn ∧ g a 5 ≠ .ref df ∧ g a 6 ≠ .ref db ∧ g a 7 ≠ .ref ds
def xXS (S : xT) (g : xG) (X : Int → Nat) (tn : Int) (et d dk dn df db ds : Nat) : Prop := (∀ k : Int, 0 ≤ k → k < tn → xAp S g d dk dn df db ds (X k)) ∧ xAp S g d dk dn df db ds et
def xDS (S : xT) (g : xG) (x : Nat) (X : Int → Nat) (tn : Int) (et : Nat) : Prop := S x = some (12, 0) ∧ ∃ d dk dn df db ds : Nat, g x 7 = .ref d ∧ S d = some (11, 0) ∧ g d 3 = .ref dk ∧ g d 4 = .ref dn ∧ g d 5 = .ref df ∧ g d 6 = .ref db ∧ g d 7 = .ref ds ∧ xXS S g X tn et d dk dn df db ds
theorem xAp.m {S S1 : xT} {g g1 : xG} {d dk dn df db ds a : Nat} {L : List (Nat × Nat)} (h : xAp S g d dk dn df db ds a) (hm : xM L S g g1) (hle : xLe S S1) (hL : ∀ x ∈ [(11, 3), (11, 4), (11, 5), (11, 6), (11, 7)], x ∉ L) : xAp S1 g1 d dk dn df db ds a := by
  obtain ⟨h0, h1, h3, h4, h5, h6, h7⟩ := h
  have f : ∀ k : Nat, (11, k) ∉ L → g1 a k = g a k := fun k hk => hm a 11 0 k h0 (by rw [xky_o (by decide)]; exact hk)
  refine ⟨hle _ _ h0, h1, ?_, ?_, ?_, ?_, ?_⟩
  · rw [f 3 (hL _ (by decide))]; exact h3
  · rw [f 4 (hL _ (by decide))]; exact h4
  · rw [f 5 (hL _ (by decide))]; exact h5
  · rw [f 6 (hL _ (by decide))]; exact h6
  · rw [f 7 (hL _ (by decide))]; exact h7
theorem xXS.m {S S1 : xT} {g g1 : xG} {X : Int → Nat} {tn : Int} {et d dk dn df db ds : Nat} {L : List (Nat × Nat)} (h : xXS S g X tn et d dk dn df db ds) (hm : xM L S g g1) (hle : xLe S S1) (hL : ∀ x ∈ [(11, 3), (11, 4), (11, 5), (11, 6), (11, 7)], x ∉ L) : xXS S1 g1 X tn et d dk dn df db ds := ⟨fun k q1 q2 => (h.1 k q1 q2).m hm hle hL, h.2.m hm hle hL⟩
theorem xDS.m {S S1 : xT} {g g1 : xG} {x et : Nat} {X : Int → Nat} {tn : Int} {L : List (Nat × Nat)} (h : xDS S g x X tn et) (hm : xM L S g g1) (hle : xLe S S1) (hL : ∀ x ∈ [(12, 7), (11, 3), (11, 4), (11, 5), (11, 6), (11, 7)], x ∉ L) : xDS S1 g1 x X tn et := by
  obtain ⟨hx, d, dk, dn, df, db, ds, e, s, a3, a4, a5, a6, a7, w⟩ := h
  have hO : ∀ x ∈ [(11, 3), (11, 4), (11, 5), (11, 6), (11, 7)], x ∉ L := fun x hx => hL x ((by decide : ∀ y ∈ [(11, 3), (11, 4), (11, 5), (11, 6), (11, 7)], y ∈ [(12, 7), (11, 3), (11, 4), (11, 5), (11, 6), (11, 7)]) x hx)
  have f : ∀ k : Nat, (11, k) ∉ L → g1 d k = g d k := fun k hk => hm d 11 0 k s (by rw [xky_o (by decide)]; exact hk)
  refine ⟨hle _ _ hx, d, dk, dn, df, db, ds, ?_, hle _ _ s, ?_, ?_, ?_, ?_, ?_, fun k q1 q2 => (w.1 k q1 q2).m hm hle hO, w.2.m hm hle hO⟩
  · rw [hm x 12 0 7 hx (by rw [xky_o (by decide)]; exact hL _ (by decide))]; exact e
  · rw [f 3 (hL _ (by decide))]; exact a3
  · rw [f 4 (hL _ (by decide))]; exact a4
  · rw [f 5 (hL _ (by decide))]; exact a5
  · rw [f 6 (hL _ (by decide))]; exact a6
  · rw [f 7 (hL _ (by decide))]; exact a7
theorem xrefi {a b : Nat} {v : Value} (h : v = .ref a) (h2 : v = .ref b) : a = b := by
  rw [h] at h2
  exact Value.ref.inj h2
theorem xDS.at {S : xT} {g : xG} {x et d dk dn df db ds : Nat} {X : Int → Nat} {tn : Int} (h : xDS S g x X tn et) (e : g x 7 = .ref d) (e3 : g d 3 = .ref dk) (e4 : g d 4 = .ref dn) (e5 : g d 5 = .ref df) (e6 : g d 6 = .ref db) (e7 : g d 7 = .ref ds) : xXS S g X tn et d dk dn df db ds := by
  obtain ⟨hx, d', dk', dn', df', db', ds', e', s, a3, a4, a5, a6, a7, w⟩ := h
  have i := xrefi e' e
  subst i
  have i3 := xrefi a3 e3
  have i4 := xrefi a4 e4
  have i5 := xrefi a5 e5
  have i6 := xrefi a6 e6
  have i7 := xrefi a7 e7
  subst i3
  subst i4
  subst i5
  subst i6
  subst i7
  exact w
theorem xOT.kp {S : xT} {g g1 : xG} {d dk dn df db ds a : Nat} {T : List xL3} (h : xOT S g a T) (p : xAp S g1 d dk dn df db ds a) (fT : xFr 11 S g g1 d) (f3 : xFr 13600 S g g1 dk) (f4 : xFr 13700 S g g1 dn) (f5 : xFr 13800 S g g1 df) (f6 : xFr 13900 S g g1 db) (f7 : xFr 14000 S g g1 ds) : xOT S g1 a T := by
  obtain ⟨h0, wk, wn, wf, wb, ws, ln, e1, r1, e3, s3, e4, s4, e5, s5, e6, s6, e7, s7, t⟩ := h
  obtain ⟨_, p1, p3, p4, p5, p6, p7⟩ := p
  have f : ∀ k : Nat, g1 a k = g a k := fun k => fT a 0 k h0 p1
  refine ⟨h0, wk, wn, wf, wb, ws, ln, (f 1).trans e1, r1, (f 3).trans e3, s3, (f 4).trans e4, s4, (f 5).trans e5, s5, (f 6).trans e6, s6, (f 7).trans e7, s7, ?_⟩
  rw [f3.v s3 (fun q => p3 (by rw [f 3, e3, q])), f4.v s4 (fun q => p4 (by rw [f 4, e4, q])), f5.v s5 (fun q => p5 (by rw [f 5, e5, q])), f6.v s6 (fun q => p6 (by rw [f 6, e6, q])), f7.v s7 (fun q => p7 (by rw [f 7, e7, q]))]
  exact t
theorem xXW.kp {S : xT} {g g1 : xG} {tx et d dk dn df db ds : Nat} {tn : Int} {X : Int → Nat} {TT : Int → List xL3} {fr : Int → Int} {L : List (Nat × Nat)} (h : xXW S g tx tn X TT fr) (q : xXS S g1 X tn et d dk dn df db ds) (hm : xM L S g g1) (hL : (300, 1) ∉ L ∧ (10303, 0) ∉ L) (fT : xFr 11 S g g1 d) (f3 : xFr 13600 S g g1 dk) (f4 : xFr 13700 S g g1 dn) (f5 : xFr 13800 S g g1 df) (f6 : xFr 13900 S g g1 db) (f7 : xFr 14000 S g g1 ds) : xXW S g1 tx tn X TT fr := ⟨h.1.m hm xLe.rf (by decide) hL.1, fun k q1 q2 => by
  obtain ⟨a1, a2, a3, a4⟩ := h.2 k q1 q2
  have p := q.1 k q1 q2
  exact ⟨(h.1.el hm (by decide) (by decide) hL.1 hL.2 ⟨q1, q2⟩).trans a1, a2.kp p fT f3 f4 f5 f6 f7, (fT _ 0 0 a2.1 p.2.1).trans a3, a4⟩⟩
theorem xET.kp {S : xT} {g g1 : xG} {et d dk dn df db ds : Nat} {tn : Int} {X : Int → Nat} (h : xET S g et) (q : xXS S g1 X tn et d dk dn df db ds) (fT : xFr 11 S g g1 d) (f3 : xFr 13600 S g g1 dk) (f4 : xFr 13700 S g g1 dn) (f5 : xFr 13800 S g g1 df) (f6 : xFr 13900 S g g1 db) (f7 : xFr 14000 S g g1 ds) : xET S g1 et := ⟨h.1.kp q.2 fT f3 f4 f5 f6 f7, (fT _ 0 0 h.1.1 q.2.2.1).trans h.2⟩
theorem xXW.add {S S1 : xT} {g g1 : xG} {tx d : Nat} {tn x : Int} {X : Int → Nat} {TT : Int → List xL3} {fr : Int → Int} {T : List xL3} {L : List (Nat × Nat)} (h : xXW S g tx tn X TT fr) (hm : xM L S g g1) (hle : xLe S S1) (hL : ∀ x ∈ [(11, 0), (11, 1), (11, 3), (11, 4), (11, 5), (11, 6), (11, 7), (13600, 0), (13700, 0), (13800, 0), (13900, 0), (14000, 0)], x ∉ L) (hlv : xLv S1 g1 tx 300 10303 (tn + 1)) (hel : (∀ k : Int, 0 ≤ k → k < tn → xel g1 tx k = xel g tx k) ∧ xel g1 tx tn = d) (hd : xOT S1 g1 d T) (h0 : g1 d 0 = .int (iI x)) (rx : 0 ≤ x ∧ x ≤ 399) : xXW S1 g1 tx (tn + 1) (xpt9 X tn d) (xpt9 TT tn T) (xpt9 fr tn x) := by
  refine ⟨hlv, fun k q1 q2 => ?_⟩
  by_cases ek : k = tn
  · rw [ek, xpt9.s, xpt9.s, xpt9.s]
    exact ⟨hel.2, hd, h0, rx⟩
  · rw [xpt9.o ek, xpt9.o ek, xpt9.o ek]
    obtain ⟨a1, a2, a3, a4⟩ := h.2 k q1 (by omega)
    have hO : ∀ x ∈ [(11, 1), (11, 3), (11, 4), (11, 5), (11, 6), (11, 7), (13600, 0), (13700, 0), (13800, 0), (13900, 0), (14000, 0)], x ∉ L := fun x hx => hL x ((by decide : ∀ y ∈ [(11, 1), (11, 3), (11, 4), (11, 5), (11, 6), (11, 7), (13600, 0), (13700, 0), (13800, 0), (13900, 0), (14000, 0)], y ∈ [(11, 0), (11, 1), (11, 3), (11, 4), (11, 5), (11, 6), (11, 7), (13600, 0), (13700, 0), (13800, 0), (13900, 0), (14000, 0)]) x hx)
    refine ⟨(hel.1 k q1 (by omega)).trans a1, a2.m hm hle hO, ?_, a4⟩
    rw [hm (X k) 11 0 0 a2.1 (by rw [xky_o (by decide)]; exact hL _ (by decide))]
    exact a3
theorem xET.mm {S S1 : xT} {g g1 : xG} {et : Nat} {L : List (Nat × Nat)} (h : xET S g et) (hm : xM L S g g1) (hle : xLe S S1) (hL : ∀ x ∈ [(11, 0), (11, 1), (11, 3), (11, 4), (11, 5), (11, 6), (11, 7), (13600, 0), (13700, 0), (13800, 0), (13900, 0), (14000, 0)], x ∉ L) : xET S1 g1 et := by
  have hO : ∀ x ∈ [(11, 1), (11, 3), (11, 4), (11, 5), (11, 6), (11, 7), (13600, 0), (13700, 0), (13800, 0), (13900, 0), (14000, 0)], x ∉ L := fun x hx => hL x ((by decide : ∀ y ∈ [(11, 1), (11, 3), (11, 4), (11, 5), (11, 6), (11, 7), (13600, 0), (13700, 0), (13800, 0), (13900, 0), (14000, 0)], y ∈ [(11, 0), (11, 1), (11, 3), (11, 4), (11, 5), (11, 6), (11, 7), (13600, 0), (13700, 0), (13800, 0), (13900, 0), (14000, 0)]) x hx)
  refine ⟨h.1.m hm hle hO, ?_⟩
  rw [hm et 11 0 0 h.1.1 (by rw [xky_o (by decide)]; exact hL _ (by decide))]
  exact h.2
theorem xLe.nn {S S2 : xT} {q : Nat} (h : xLe S S2) (hn : S2 q = none) : S q = none := by
  cases e : S q with
  | none => rfl
  | some p => rw [h _ _ e] at hn; cases hn
theorem xnr {S : xT} {p : Nat × Nat} {w k : Nat} {v : Value} (e : v = .ref w) (s : S w = some p) (n : S k = none) : v ≠ .ref k := fun q => by
  rw [xrefi e q, n] at s
  cases s
theorem xAp.new {S S1 : xT} {g g1 : xG} {d dk dn df db ds a : Nat} {T : List xL3} {L : List (Nat × Nat)} (h : xOT S g a T) (hm : xM L S g g1) (hle : xLe S S1) (hL : ∀ x ∈ [(11, 3), (11, 4), (11, 5), (11, 6), (11, 7)], x ∉ L) (nd : S d = none) (n3 : S dk = none) (n4 : S dn = none) (n5 : S df = none) (n6 : S db = none) (n7 : S ds = none) : xAp S1 g1 d dk dn df db ds a := by
  obtain ⟨h0, wk, wn, wf, wb, ws, ln, e1, r1, e3, s3, e4, s4, e5, s5, e6, s6, e7, s7, t⟩ := h
  have f : ∀ k : Nat, (11, k) ∉ L → g1 a k = g a k := fun k hk => hm a 11 0 k h0 (by rw [xky_o (by decide)]; exact hk)
  refine ⟨hle _ _ h0, fun e => ?_, ?_, ?_, ?_, ?_, ?_⟩
  · rw [e, nd] at h0; cases h0
  · exact xnr ((f 3 (hL _ (by decide))).trans e3) s3 n3
  · exact xnr ((f 4 (hL _ (by decide))).trans e4) s4 n4
  · exact xnr ((f 5 (hL _ (by decide))).trans e5) s5 n5
  · exact xnr ((f 6 (hL _ (by decide))).trans e6) s6 n6
  · exact xnr ((f 7 (hL _ (by decide))).trans e7) s7 n7
theorem xDS.new {S S1 : xT} {g g1 : xG} {x tx et d dk dn df db ds : Nat} {tn : Int} {X : Int → Nat} {TT : Int → List xL3} {fr : Int → Int} {L : List (Nat × Nat)} (h : xXW S g tx tn X TT fr) (h2 : xET S g et) (hm : xM L S g g1) (hle : xLe S S1) (hL : ∀ x ∈ [(11, 3), (11, 4), (11, 5), (11, 6), (11, 7)], x ∉ L) (hx : S1 x = some (12, 0)) (nd : S d = none) (n3 : S dk = none) (n4 : S dn = none) (n5 : S df = none) (n6 : S db = none) (n7 : S ds = none) (e : g1 x 7 = .ref d) (s : S1 d = some (11, 0)) (e3 : g1 d 3 = .ref dk) (e4 : g1 d 4 = .ref dn) (e5 : g1 d 5 = .ref df) (e6 : g1 d 6 = .ref db) (e7 : g1 d 7 = .ref ds) : xDS S1 g1 x X tn et :=
  ⟨hx, d, dk, dn, df, db, ds, e, s, e3, e4, e5, e6, e7, fun k q1 q2 => xAp.new (h.2 k q1 q2).2.1 hm hle hL nd n3 n4 n5 n6 n7, xAp.new h2.1 hm hle hL nd n3 n4 n5 n6 n7⟩
def xTEg (f : Int → Int) (n t td d ff : Int) (TT : Int → List xL3) (fr : Int → Int) (F1 n1 r : Int) (TT1 : Int → List xL3) (fr1 : Int → Int) : Prop := ((t = 10 ∨ ¬ (td ≤ d ∧ d ≤ 399)) ∧ F1 = ff ∧ n1 = t ∧ r = -1000 ∧ TT1 = TT ∧ fr1 = fr) ∨ (¬ (t = 10 ∨ ¬ (td ≤ d ∧ d ≤ 399)) ∧ ∃ m q T, xTXg f n F1 m q T ∧ (F1 = 0 → n1 = t + 1 ∧ r = m ∧ TT1 = xpt9 TT t T ∧ fr1 = xpt9 fr t d) ∧ (F1 ≠ 0 → n1 = t ∧ r = -1 - q ∧ TT1 = TT ∧ fr1 = fr))
theorem xTEg.det {f f' : Int → Int} {n t td d ff : Int} {TT : Int → List xL3} {fr : Int → Int} {F1 n1 r F1' n1' r' : Int} {TT1 TT1' : Int → List xL3} {fr1 fr1' : Int → Int} (hf : ∀ i, 0 ≤ i → i < n → f i = f' i) (h : xTEg f n t td d ff TT fr F1 n1 r TT1 fr1) (h' : xTEg f' n t td d ff TT fr F1' n1' r' TT1' fr1') : F1 = F1' ∧ n1 = n1' ∧ r = r' ∧ TT1 = TT1' ∧ fr1 = fr1' := by
  rcases h with ⟨c, a1, a2, a3, a4, a5⟩ | ⟨c, m, q, T, x, y, z⟩
  · rcases h' with ⟨c', b1, b2, b3, b4, b5⟩ | ⟨c', _⟩
    · exact ⟨by rw [a1, b1], by rw [a2, b2], by rw [a3, b3], by rw [a4, b4], by rw [a5, b5]⟩
    · exact absurd c c'
  · rcases h' with ⟨c', _⟩ | ⟨c', m', q', T', x', y', z'⟩
    · exact absurd c' c
    · obtain ⟨e1, e2, e3⟩ := (xTXg.cg hf x).det x'
      refine ⟨e1, ?_⟩
      by_cases w : F1 = 0
      · obtain ⟨u1, u2⟩ := e2 w
        obtain ⟨y1, y2, y3, y4⟩ := y w
        obtain ⟨v1, v2, v3, v4⟩ := y' (by omega)
        exact ⟨by rw [y1, v1], by rw [y2, v2, u1], by rw [y3, v3, u2], by rw [y4, v4]⟩
      · have u := e3 w
        obtain ⟨y1, y2, y3, y4⟩ := z w
        obtain ⟨v1, v2, v3, v4⟩ := z' (by omega)
        exact ⟨by rw [y1, v1], by rw [y2, v2, u], by rw [y3, v3], by rw [y4, v4]⟩
set_option maxHeartbeats 4000000 in
set_option maxRecDepth 100000 in
theorem m_init10 (l : Launch) (D : va_G) (kA : Nat → ClassId) (b0 : Nat) (t0 : Nat → Nat) (S : xT) (g : xG) (a0 : Nat) (hs_a0 : S a0 = some (5011, 0)) : xMu l yX10_init cX10_init 1 none 1 5 164 12 D kA b0 t0 [(5011, 0), (5011, 1), (5011, 2), (5011, 3), (5011, 4), (5011, 5), (5011, 6), (5011, 7)] [.ref a0] S g (fun (r : Option Value) (S1 : xT) (g1 : xG) (dc ds : Nat) => xNw2 S S1 [13600, 13700, 13800, 13900, 14000] ∧ r = none ∧ (dc ≤ 5 ∧ ds ≤ 164) ∧ (∃ k3 k4 k5 k6 k7 : Nat, g1 a0 3 = .ref k3 ∧ S k3 = none ∧ S1 k3 = some (13600, 16) ∧ g1 a0 4 = .ref k4 ∧ S k4 = none ∧ S1 k4 = some (13700, 16) ∧ g1 a0 5 = .ref k5 ∧ S k5 = none ∧ S1 k5 = some (13800, 16) ∧ g1 a0 6 = .ref k6 ∧ S k6 = none ∧ S1 k6 = some (13900, 16) ∧ g1 a0 7 = .ref k7 ∧ S k7 = none ∧ S1 k7 = some (14000, 100) ∧ g1 a0 0 = .int (iI (-1)) ∧ g1 a0 1 = .int (iI 0)) ∧ (∀ k9 : Nat, xok S1 (xsl 11 k9) (g1 a0 k9))) := by
  refine xEnterUV (by decide) (by simp [lg_sl, Value.category]) [(0, .ref a0)] rfl ?_
  intro K E hK hret hS0 _ hini ht
  subst ht
  refine X_aloadn hK (i := 0) 0 kd43_1.2.2.2.2.2.2.2.2.2.1 rfl rfl ?_
  refine X_oinit hK ⟨m_5_21, m_1_11, m_1_12⟩ ⟨by decide, by simp [Value.category]⟩ kd43_1.2.2.2.2.2.2.2.2.2.2.1 ?_
  refine X_aloadn hK (i := 0) 0 kd43_1.2.2.2.2.2.2.2.2.2.2.2 rfl rfl ?_
  refine X_iconst hK kd43_2.1 ?_
  refine X_putv hK fl_X10_9_5011 hs_a0 (by decide) (xokr 11 0 (by decide)) rfl rfl kd43_2.2.1 (fun g1 hg1 => ?_)
  refine X_aloadn hK (i := 0) 0 kd43_2.2.2.1 rfl rfl ?_
  refine X_iconst hK kd43_2.2.2.2.1 ?_
  refine X_putv hK fl_X10_15_5011 hs_a0 (by decide) (xokr 11 1 (by decide)) rfl rfl kd43_2.2.2.2.2.1 (fun g2 hg2 => ?_)
  refine X_aloadn hK (i := 0) 0 kd43_2.2.2.2.2.2.1 rfl rfl ?_
  refine X_iconst hK kd43_2.2.2.2.2.2.2.1 ?_
  refine X_putv hK fl_X10_18_5011 hs_a0 (by decide) (xokr 11 2 (by decide)) rfl rfl kd43_2.2.2.2.2.2.2.2.1 (fun g3 hg3 => ?_)
  refine X_aloadn hK (i := 0) 0 kd43_2.2.2.2.2.2.2.2.2.1 rfl rfl ?_
  refine X_bipush hK kd43_2.2.2.2.2.2.2.2.2.2.1 (by decide) ?_
  refine X_newa hK (ty := .int) 13600 0 (.int 0) rfl (fun _ => rfl) rfl (by decide) m_3_14 (by omega) ⟨by show _ * 4 ≤ _; omega, by omega⟩ (by omega) (by omega) (fun _ _ h9 => h9) (fun S9 k9 => by rw [sl_13600]; exact ⟨0, rfl, by decide, by decide⟩) kd43_2.2.2.2.2.2.2.2.2.2.2.1 (fun b4 S5 g6 zb4 nb4 hSb4 hg6 qb4 hs_b4 => ?_)
  refine X_putF hK fl_X10_21_5011 (fun T9 N9 C9 h9 => by cases (Option.some.inj (h9.symm.trans (rfl : vwCl[11]? = some (RX10, TX10, 8)))); rfl) (hini rfl) (qb4 _ _ hs_a0) (Or.inr (by decide)) (xokr 11 3 (by decide)) rfl rfl kd43_2.2.2.2.2.2.2.2.2.2.2.2 (fun g7 hg7 => ?_)
  refine X_aloadn hK (i := 0) 0 kd43_3.1 rfl rfl ?_
  refine X_bipush hK kd43_3.2.1 (by decide) ?_
  refine X_newa hK (ty := .int) 13700 0 (.int 0) rfl (fun _ => rfl) rfl (by decide) m_3_14 (by omega) ⟨by show _ * 4 ≤ _; omega, by omega⟩ (by omega) (by omega) (fun _ _ h9 => h9) (fun S9 k9 => by rw [sl_13700]; exact ⟨0, rfl, by decide, by decide⟩) kd43_3.2.2.1 (fun b8 S9 g10 zb8 nb8 hSb8 hg10 qb8 hs_b8 => ?_)
  refine X_putF hK fl_X10_25_5011 (fun T9 N9 C9 h9 => by cases (Option.some.inj (h9.symm.trans (rfl : vwCl[11]? = some (RX10, TX10, 8)))); rfl) (hini rfl) (qb8 _ _ (qb4 _ _ hs_a0)) (Or.inr (by decide)) (xokr 11 4 (by decide)) rfl rfl kd43_3.2.2.2.1 (fun g11 hg11 => ?_)
  refine X_aloadn hK (i := 0) 0 kd43_3.2.2.2.2.1 rfl rfl ?_
  refine X_bipush hK kd43_3.2.2.2.2.2.1 (by decide) ?_
  refine X_newa hK (ty := .int) 13800 0 (.int 0) rfl (fun _ => rfl) rfl (by decide) m_3_14 (by omega) ⟨by show _ * 4 ≤ _; omega, by omega⟩ (by omega) (by omega) (fun _ _ h9 => h9) (fun S9 k9 => by rw [sl_13800]; exact ⟨0, rfl, by decide, by decide⟩) kd43_3.2.2.2.2.2.2.1 (fun b12 S13 g14 zb12 nb12 hSb12 hg14 qb12 hs_b12 => ?_)
  refine X_putF hK fl_X10_28_5011 (fun T9 N9 C9 h9 => by cases (Option.some.inj (h9.symm.trans (rfl : vwCl[11]? = some (RX10, TX10, 8)))); rfl) (hini rfl) (qb12 _ _ (qb8 _ _ (qb4 _ _ hs_a0))) (Or.inr (by decide)) (xokr 11 5 (by decide)) rfl rfl kd43_3.2.2.2.2.2.2.2.1 (fun g15 hg15 => ?_)
  refine X_aloadn hK (i := 0) 0 kd43_3.2.2.2.2.2.2.2.2.1 rfl rfl ?_
  refine X_bipush hK kd43_3.2.2.2.2.2.2.2.2.2.1 (by decide) ?_
  refine X_newa hK (ty := .int) 13900 0 (.int 0) rfl (fun _ => rfl) rfl (by decide) m_3_14 (by omega) ⟨by show _ * 4 ≤ _; omega, by omega⟩ (by omega) (by omega) (fun _ _ h9 => h9) (fun S9 k9 => by rw [sl_13900]; exact ⟨0, rfl, by decide, by decide⟩) kd43_3.2.2.2.2.2.2.2.2.2.2.1 (fun b16 S17 g18 zb16 nb16 hSb16 hg18 qb16 hs_b16 => ?_)
  refine X_putF hK fl_X10_31_5011 (fun T9 N9 C9 h9 => by cases (Option.some.inj (h9.symm.trans (rfl : vwCl[11]? = some (RX10, TX10, 8)))); rfl) (hini rfl) (qb16 _ _ (qb12 _ _ (qb8 _ _ (qb4 _ _ hs_a0)))) (Or.inr (by decide)) (xokr 11 6 (by decide)) rfl rfl kd43_3.2.2.2.2.2.2.2.2.2.2.2 (fun g19 hg19 => ?_)
  refine X_aloadn hK (i := 0) 0 kd43_4.1 rfl rfl ?_
  refine X_bipush hK kd43_4.2.1 (by decide) ?_
  refine X_newa hK (ty := .int) 14000 0 (.int 0) rfl (fun _ => rfl) rfl (by decide) m_3_14 (by omega) ⟨by show _ * 4 ≤ _; omega, by omega⟩ (by omega) (by omega) (fun _ _ h9 => h9) (fun S9 k9 => by rw [sl_14000]; exact ⟨0, rfl, by decide, by decide⟩) kd43_4.2.2.1 (fun b20 S21 g22 zb20 nb20 hSb20 hg22 qb20 hs_b20 => ?_)
  refine X_putF hK fl_X10_34_5011 (fun T9 N9 C9 h9 => by cases (Option.some.inj (h9.symm.trans (rfl : vwCl[11]? = some (RX10, TX10, 8)))); rfl) (hini rfl) (qb20 _ _ (qb16 _ _ (qb12 _ _ (qb8 _ _ (qb4 _ _ hs_a0))))) (Or.inr (by decide)) (xokr 11 7 (by decide)) rfl rfl kd43_4.2.2.2.1 (fun g23 hg23 => ?_)
  exact hret _ _ _ _ _ _ kd43_4.2.2.2.2.1 ⟨(xNw2.tr (xNw2.tr (xNw2.tr (xNw2.tr (xNw2.tr xNw2.rf (hSb4 ▸ xNw2.set (by decide)) (fun _ h => h)) (hSb8 ▸ xNw2.set (by decide)) (fun _ h => h)) (hSb12 ▸ xNw2.set (by decide)) (fun _ h => h)) (hSb16 ▸ xNw2.set (by decide)) (fun _ h => h)) (hSb20 ▸ xNw2.set (by decide)) (fun _ h => h)), rfl, (by omega), ⟨b4, b8, b12, b16, b20, ((xs_k hg23 (by decide)).trans ((xs_n hg22 (qb16 _ _ (qb12 _ _ (qb8 _ _ (qb4 _ _ hs_a0)))) nb20).trans ((xs_k hg19 (by decide)).trans ((xs_n hg18 (qb12 _ _ (qb8 _ _ (qb4 _ _ hs_a0))) nb16).trans ((xs_k hg15 (by decide)).trans ((xs_n hg14 (qb8 _ _ (qb4 _ _ hs_a0)) nb12).trans ((xs_k hg11 (by decide)).trans ((xs_n hg10 (qb4 _ _ hs_a0) nb8).trans (xs_s hg7))))))))), (xLe.nn xLe.rf nb4), (qb20 _ _ (qb16 _ _ (qb12 _ _ (qb8 _ _ hs_b4)))), ((xs_k hg23 (by decide)).trans ((xs_n hg22 (qb16 _ _ (qb12 _ _ (qb8 _ _ (qb4 _ _ hs_a0)))) nb20).trans ((xs_k hg19 (by decide)).trans ((xs_n hg18 (qb12 _ _ (qb8 _ _ (qb4 _ _ hs_a0))) nb16).trans ((xs_k hg15 (by decide)).trans ((xs_n hg14 (qb8 _ _ (qb4 _ _ hs_a0)) nb12).trans (xs_s hg11))))))), (xLe.nn qb4 nb8), (qb20 _ _ (qb16 _ _ (qb12 _ _ hs_b8))), ((xs_k hg23 (by decide)).trans ((xs_n hg22 (qb16 _ _ (qb12 _ _ (qb8 _ _ (qb4 _ _ hs_a0)))) nb20).trans ((xs_k hg19 (by decide)).trans ((xs_n hg18 (qb12 _ _ (qb8 _ _ (qb4 _ _ hs_a0))) nb16).trans (xs_s hg15))))), (xLe.nn (xLe.tr qb4 qb8) nb12), (qb20 _ _ (qb16 _ _ hs_b12)), ((xs_k hg23 (by decide)).trans ((xs_n hg22 (qb16 _ _ (qb12 _ _ (qb8 _ _ (qb4 _ _ hs_a0)))) nb20).trans (xs_s hg19))), (xLe.nn (xLe.tr (xLe.tr qb4 qb8) qb12) nb16), (qb20 _ _ hs_b16), (xs_s hg23), (xLe.nn (xLe.tr (xLe.tr (xLe.tr qb4 qb8) qb12) qb16) nb20), hs_b20, ((xs_k hg23 (by decide)).trans ((xs_n hg22 (qb16 _ _ (qb12 _ _ (qb8 _ _ (qb4 _ _ hs_a0)))) nb20).trans ((xs_k hg19 (by decide)).trans ((xs_n hg18 (qb12 _ _ (qb8 _ _ (qb4 _ _ hs_a0))) nb16).trans ((xs_k hg15 (by decide)).trans ((xs_n hg14 (qb8 _ _ (qb4 _ _ hs_a0)) nb12).trans ((xs_k hg11 (by decide)).trans ((xs_n hg10 (qb4 _ _ hs_a0) nb8).trans ((xs_k hg7 (by decide)).trans ((xs_n hg6 hs_a0 nb4).trans ((xs_k hg3 (by decide)).trans ((xs_k hg2 (by decide)).trans (xs_s hg1))))))))))))), ((xs_k hg23 (by decide)).trans ((xs_n hg22 (qb16 _ _ (qb12 _ _ (qb8 _ _ (qb4 _ _ hs_a0)))) nb20).trans ((xs_k hg19 (by decide)).trans ((xs_n hg18 (qb12 _ _ (qb8 _ _ (qb4 _ _ hs_a0))) nb16).trans ((xs_k hg15 (by decide)).trans ((xs_n hg14 (qb8 _ _ (qb4 _ _ hs_a0)) nb12).trans ((xs_k hg11 (by decide)).trans ((xs_n hg10 (qb4 _ _ hs_a0) nb8).trans ((xs_k hg7 (by decide)).trans ((xs_n hg6 hs_a0 nb4).trans ((xs_k hg3 (by decide)).trans (xs_s hg2))))))))))))⟩, (fun k9 => match k9 with | 0 => xk0 sl_11_0 ((xs_k hg23 (by decide)).trans ((xs_n hg22 (qb16 _ _ (qb12 _ _ (qb8 _ _ (qb4 _ _ hs_a0)))) nb20).trans ((xs_k hg19 (by decide)).trans ((xs_n hg18 (qb12 _ _ (qb8 _ _ (qb4 _ _ hs_a0))) nb16).trans ((xs_k hg15 (by decide)).trans ((xs_n hg14 (qb8 _ _ (qb4 _ _ hs_a0)) nb12).trans ((xs_k hg11 (by decide)).trans ((xs_n hg10 (qb4 _ _ hs_a0) nb8).trans ((xs_k hg7 (by decide)).trans ((xs_n hg6 hs_a0 nb4).trans ((xs_k hg3 (by decide)).trans ((xs_k hg2 (by decide)).trans (xs_s hg1))))))))))))) (by omega) (by omega) | 1 => xk0 sl_11_1 ((xs_k hg23 (by decide)).trans ((xs_n hg22 (qb16 _ _ (qb12 _ _ (qb8 _ _ (qb4 _ _ hs_a0)))) nb20).trans ((xs_k hg19 (by decide)).trans ((xs_n hg18 (qb12 _ _ (qb8 _ _ (qb4 _ _ hs_a0))) nb16).trans ((xs_k hg15 (by decide)).trans ((xs_n hg14 (qb8 _ _ (qb4 _ _ hs_a0)) nb12).trans ((xs_k hg11 (by decide)).trans ((xs_n hg10 (qb4 _ _ hs_a0) nb8).trans ((xs_k hg7 (by decide)).trans ((xs_n hg6 hs_a0 nb4).trans ((xs_k hg3 (by decide)).trans (xs_s hg2)))))))))))) (by omega) (by omega) | 2 => xk0 sl_11_2 ((xs_k hg23 (by decide)).trans ((xs_n hg22 (qb16 _ _ (qb12 _ _ (qb8 _ _ (qb4 _ _ hs_a0)))) nb20).trans ((xs_k hg19 (by decide)).trans ((xs_n hg18 (qb12 _ _ (qb8 _ _ (qb4 _ _ hs_a0))) nb16).trans ((xs_k hg15 (by decide)).trans ((xs_n hg14 (qb8 _ _ (qb4 _ _ hs_a0)) nb12).trans ((xs_k hg11 (by decide)).trans ((xs_n hg10 (qb4 _ _ hs_a0) nb8).trans ((xs_k hg7 (by decide)).trans ((xs_n hg6 hs_a0 nb4).trans (xs_s hg3))))))))))) (by omega) (by omega) | 3 => xk1 13600 16 sl_11_3 ((xs_k hg23 (by decide)).trans ((xs_n hg22 (qb16 _ _ (qb12 _ _ (qb8 _ _ (qb4 _ _ hs_a0)))) nb20).trans ((xs_k hg19 (by decide)).trans ((xs_n hg18 (qb12 _ _ (qb8 _ _ (qb4 _ _ hs_a0))) nb16).trans ((xs_k hg15 (by decide)).trans ((xs_n hg14 (qb8 _ _ (qb4 _ _ hs_a0)) nb12).trans ((xs_k hg11 (by decide)).trans ((xs_n hg10 (qb4 _ _ hs_a0) nb8).trans (xs_s hg7))))))))) (qb20 _ _ (qb16 _ _ (qb12 _ _ (qb8 _ _ hs_b4)))) | 4 => xk1 13700 16 sl_11_4 ((xs_k hg23 (by decide)).trans ((xs_n hg22 (qb16 _ _ (qb12 _ _ (qb8 _ _ (qb4 _ _ hs_a0)))) nb20).trans ((xs_k hg19 (by decide)).trans ((xs_n hg18 (qb12 _ _ (qb8 _ _ (qb4 _ _ hs_a0))) nb16).trans ((xs_k hg15 (by decide)).trans ((xs_n hg14 (qb8 _ _ (qb4 _ _ hs_a0)) nb12).trans (xs_s hg11))))))) (qb20 _ _ (qb16 _ _ (qb12 _ _ hs_b8))) | 5 => xk1 13800 16 sl_11_5 ((xs_k hg23 (by decide)).trans ((xs_n hg22 (qb16 _ _ (qb12 _ _ (qb8 _ _ (qb4 _ _ hs_a0)))) nb20).trans ((xs_k hg19 (by decide)).trans ((xs_n hg18 (qb12 _ _ (qb8 _ _ (qb4 _ _ hs_a0))) nb16).trans (xs_s hg15))))) (qb20 _ _ (qb16 _ _ hs_b12)) | 6 => xk1 13900 16 sl_11_6 ((xs_k hg23 (by decide)).trans ((xs_n hg22 (qb16 _ _ (qb12 _ _ (qb8 _ _ (qb4 _ _ hs_a0)))) nb20).trans (xs_s hg19))) (qb20 _ _ hs_b16) | 7 => xk1 14000 100 sl_11_7 (xs_s hg23) hs_b20 | n9 + 8 => xk9 (by rfl))⟩ (by omega) (by omega)

set_option maxHeartbeats 4000000 in
set_option maxRecDepth 100000 in
theorem m_takeDraft (l : Launch) (D : va_G) (kA : Nat → ClassId) (b0 : Nat) (t0 : Nat → Nat) (S : xT) (g : xG) (a0 : Nat) (x1 : Int) (tx : Nat) (tn : Int) (et : Nat) (d0 : Nat) (ln : Int) (jk : Nat) (jn : Nat) (jf : Nat) (jb : Nat) (js : Nat) (Xt : Int → Nat) (TT : Int → List xL3) (fr : Int → Int) (T : List xL3) (hs_a0 : S a0 = some (12, 0)) (hx1 : 0 ≤ x1 ∧ x1 ≤ 399) (etx : g a0 4 = .ref tx) (hs_tx : S tx = some (300, 0)) (htn : 0 ≤ tn ∧ tn ≤ 9) (etn : g tx 2 = .int (iI tn)) (eet : g a0 5 = .ref et) (hs_et : S et = some (11, 0)) (ed0 : g a0 7 = .ref d0) (hs_d0 : S d0 = some (11, 0)) (hln : 0 ≤ ln ∧ ln ≤ 16) (eln : g d0 1 = .int (iI ln)) (ejk : g d0 3 = .ref jk) (hs_jk : S jk = some (13600, 16)) (ejn : g d0 4 = .ref jn) (hs_jn : S jn = some (13700, 16)) (ejf : g d0 5 = .ref jf) (hs_jf : S jf = some (13800, 16)) (ejb : g d0 6 = .ref jb) (hs_jb : S jb = some (13900, 16)) (ejs : g d0 7 = .ref js) (hs_js : S js = some (14000, 100)) (hp0 : xLs S g) (hp1 : xSi S t0) (hp2 : xXW S g tx tn Xt TT fr) (hp3 : xET S g et) (hp4 : xDS S g a0 Xt tn et) (hp5 : xTc9 (xv g jk) (xv g jn) (xv g jf) (xv g jb) (xv g js) ln T) : xMu l yX11_takeDraft cX11_takeDraft 3 (some .int) 7 7 416 164 D kA b0 t0 [(11, 0), (300, 0), (300, 1), (300, 2), (10303, 0), (5011, 0), (5011, 1), (5011, 2), (5011, 3), (5011, 4), (5011, 5), (5011, 6), (5011, 7), (12, 7)] [.ref a0, .int (iI x1)] S g (fun (r : Option Value) (S1 : xT) (g1 : xG) (dc ds : Nat) => xNw2 S S1 [5011, 11, 10303, 13600, 13700, 13800, 13900, 14000] ∧ ∃ z : Int, r = some (.int (iI z)) ∧ 0 ≤ z ∧ z ≤ 16 ∧ (xLs S1 g1) ∧ (xSi S1 t0) ∧ (dc ≤ 7 ∧ ds ≤ 416) ∧ (z = ln) ∧ (g1 tx 2 = .int (iI (tn + 1))) ∧ (xXW S1 g1 tx (tn + 1) (xpt9 Xt tn d0) (xpt9 TT tn T) (xpt9 fr tn x1) ∧ xET S1 g1 et ∧ xDS S1 g1 a0 (xpt9 Xt tn d0) (tn + 1) et)) := by
  refine xEnterUI (by decide) (by simp [lg_sl, Value.category]) [(0, .ref a0), (1, .int (iI x1))] rfl ?_
  intro K E hK hret hS0 _ hini ht
  subst ht
  refine X_aloadn hK (i := 0) 0 kd43_13.2.2.2.2.2.1 rfl rfl ?_
  refine X_getK hK fl_X11_56_12 hs_a0 ed0 kd43_13.2.2.2.2.2.2.1 ?_
  refine X_astoren hK (i := 2) [(2, .ref d0), (0, .ref a0), (1, .int (iI x1))] kd43_13.2.2.2.2.2.2.2.1 rfl (by decide) rfl ?_
  refine X_aloadn hK (i := 2) 0 kd43_13.2.2.2.2.2.2.2.2.1 rfl rfl ?_
  refine X_iloadn hK (i := 1) 2 kd43_13.2.2.2.2.2.2.2.2.2.1 rfl rfl ?_
  refine X_puti hK fl_X11_356_11 hs_d0 (by decide) sl_11_0 (by omega) (by omega) kd43_13.2.2.2.2.2.2.2.2.2.2.1 (fun g1 hg1 => ?_)
  refine X_aloadn hK (i := 0) 1 kd43_13.2.2.2.2.2.2.2.2.2.2.2 rfl rfl ?_
  refine X_getK hK fl_X11_38_12 hs_a0 ((xs_k hg1 (by decide)).trans etx) kd43_14.1 ?_
  refine X_aloadn hK (i := 2) 0 kd43_14.2.1 rfl rfl ?_
  refine X_callVU hK [.ref d0] [] lk_X11_128 (c_addW_300 _ _ _ _ _ S g1 tx d0 tn hs_tx hs_d0 (by omega) ((xs_k hg1 (by decide)).trans etn) (xLs_up hp0 hg1 hs_d0 (by decide)) hp1) hs_tx ⟨by decide, rfl⟩ kd43_14.2.2.1 rfl rfl (by simp [Value.category]) (by decide) (by omega) (by omega) (by decide) (fun r2 S4 g3 dcr2 dsr2 pr2 qr2 hg3 => ?_)
  obtain ⟨wr2, z5, rfl, lz5, uz5, k6, k7, k8, k9⟩ := pr2
  refine X_st [.int (iI z5)] rfl ?_
  have xs9 := xDS.at hp4 ed0 ejk ejn ejf ejb ejs
  have xp9 := xXS.m xs9 (xM_up (L := [(11, 0)]) xM.rf hg1 hs_d0 (by decide) (by decide)) xLe.rf (by decide)
  have xw8 : xXW S g1 tx tn Xt TT fr := xXW.kp hp2 xp9 (xM_up (L := [(11, 0)]) xM.rf hg1 hs_d0 (by decide) (by decide)) (by decide) (xFr.w xFr.rf hg1) (xFr.t xFr.rf hg1 hs_d0 (by decide)) (xFr.t xFr.rf hg1 hs_d0 (by decide)) (xFr.t xFr.rf hg1 hs_d0 (by decide)) (xFr.t xFr.rf hg1 hs_d0 (by decide)) (xFr.t xFr.rf hg1 hs_d0 (by decide))
  have et8 : xET S g1 et := xET.kp hp3 xp9 (xFr.w xFr.rf hg1) (xFr.t xFr.rf hg1 hs_d0 (by decide)) (xFr.t xFr.rf hg1 hs_d0 (by decide)) (xFr.t xFr.rf hg1 hs_d0 (by decide)) (xFr.t xFr.rf hg1 hs_d0 (by decide)) (xFr.t xFr.rf hg1 hs_d0 (by decide))
  have ot9 : xOT S4 g3 d0 T := ⟨(qr2 _ _ hs_d0), jk, jn, jf, jb, js, ln, ((hg3 d0 11 0 1 hs_d0 (by decide)).trans ((xs_k hg1 (by decide)).trans eln)), by omega, ((hg3 d0 11 0 3 hs_d0 (by decide)).trans ((xs_k hg1 (by decide)).trans ejk)), (qr2 _ _ hs_jk), ((hg3 d0 11 0 4 hs_d0 (by decide)).trans ((xs_k hg1 (by decide)).trans ejn)), (qr2 _ _ hs_jn), ((hg3 d0 11 0 5 hs_d0 (by decide)).trans ((xs_k hg1 (by decide)).trans ejf)), (qr2 _ _ hs_jf), ((hg3 d0 11 0 6 hs_d0 (by decide)).trans ((xs_k hg1 (by decide)).trans ejb)), (qr2 _ _ hs_jb), ((hg3 d0 11 0 7 hs_d0 (by decide)).trans ((xs_k hg1 (by decide)).trans ejs)), (qr2 _ _ hs_js), (by rw [(Eq.trans (xv_m hg3 hs_jk (by decide) (by decide)) (xv_a hg1 (xne (qr2 _ _ hs_jk) (qr2 _ _ hs_d0) (by decide)))), (Eq.trans (xv_m hg3 hs_jn (by decide) (by decide)) (xv_a hg1 (xne (qr2 _ _ hs_jn) (qr2 _ _ hs_d0) (by decide)))), (Eq.trans (xv_m hg3 hs_jf (by decide) (by decide)) (xv_a hg1 (xne (qr2 _ _ hs_jf) (qr2 _ _ hs_d0) (by decide)))), (Eq.trans (xv_m hg3 hs_jb (by decide) (by decide)) (xv_a hg1 (xne (qr2 _ _ hs_jb) (qr2 _ _ hs_d0) (by decide)))), (Eq.trans (xv_m hg3 hs_js (by decide) (by decide)) (xv_a hg1 (xne (qr2 _ _ hs_js) (qr2 _ _ hs_d0) (by decide))))]; exact hp5)⟩
  have xw9 := xXW.add xw8 hg3 qr2 (by decide) (xLv.of (qr2 _ _ hs_tx) ((xLs_300 k6).2 tx 0 (qr2 _ _ hs_tx)) k7 (by omega)) k9 ot9 ((hg3 d0 11 0 0 hs_d0 (by decide)).trans (xs_s hg1)) (by omega)
  have et9 : xET S4 g3 et := xET.mm et8 hg3 qr2 (by decide)
  refine X_pop hK kd43_14.2.2.2.1 rfl ?_
  refine X_aloadn hK (i := 0) 1 kd43_14.2.2.2.2.1 rfl rfl ?_
  refine X_new hK nw_X11_42 (by omega) (by omega) kd43_14.2.2.2.2.2.1 (fun b10 S11 g12 zb10 nb10 hSb10 hg12 qb10 hs_b10 => ?_)
  have A13 : xLs S11 g12 := xLs_al k6 (hg12 ▸ xM_new (L := []) xM.rf nb10) rfl qb10 (xNw2.one hSb10) (by decide)
  refine X_dup hK kd43_14.2.2.2.2.2.2.1 rfl ?_
  refine X_callIU hK [] [.ref b10, .ref a0] li_X11_44 (m_init10 _ _ _ _ _ S11 g12 b10 hs_b10) kd43_14.2.2.2.2.2.2.2.1 rfl rfl (by simp [Value.category]) (by decide) (by omega) (by omega) (by decide) (fun r14 S16 g15 dcr14 dsr14 pr14 qr14 hg15 => ?_)
  obtain ⟨wr14, rfl, k17, k18, k19⟩ := pr14
  have A20 : xLs S16 g15 := xLs_al A13 hg15 (by decide) qr14 wr14 (by decide)
  refine X_st [.ref b10, .ref a0] rfl ?_
  obtain ⟨k3dr21, k4dr21, k5dr21, k6dr21, k7dr21, e3dr21, n3dr21, s3dr21, e4dr21, n4dr21, s4dr21, e5dr21, n5dr21, s5dr21, e6dr21, n6dr21, s6dr21, e7dr21, n7dr21, s7dr21, z0dr21, z1dr21⟩ := k18
  refine X_seal (ci := 11) zb10 (qr14 _ _ hs_b10) (by decide) k19 (fun a9 t9 n9 k9 _ _ _ c9 h9 => Or.inr (h9 ▸ xsl_raw t9 k9 (by omega))) (fun k9 => xsl_raw _ k9 (by omega)) (fun S22 hSy23 hs_y23 hoy23 => ?_)
  have hm9 : xM [(5011, 0), (5011, 1), (5011, 2), (5011, 3), (5011, 4), (5011, 5), (5011, 6), (5011, 7), (12, 7)] S4 g3 g15 := xM.tr (hg12 ▸ xM_new (L := [(5011, 0), (5011, 1), (5011, 2), (5011, 3), (5011, 4), (5011, 5), (5011, 6), (5011, 7), (12, 7)]) xM.rf nb10) qb10 hg15 (by decide)
  have hl9 : xLe S4 S22 := xLe.sl nb10 (xLe.tr qb10 qr14) hSy23
  have xw7 := xXW.m xw9 hm9 hl9 (by decide)
  have et7 := xET.m et9 hm9 hl9 (by decide)
  refine X_putr hK 11 0 fl_X11_56_12 (xhs_seal hoy23 (qr14 _ _ hs_b10) (qr14 _ _ (qb10 _ _ (qr2 _ _ hs_a0))) (by decide)) (by decide) sl_12_7 hs_y23 kd43_14.2.2.2.2.2.2.2.2.1 (fun g24 hg24 => ?_)
  refine X_aloadn hK (i := 2) 0 kd43_14.2.2.2.2.2.2.2.2.2.1 rfl rfl ?_
  refine X_getK hK fl_X11_359_11 (xhs_seal hoy23 (qr14 _ _ hs_b10) (qr14 _ _ (qb10 _ _ (qr2 _ _ hs_d0))) (by decide)) ((xs_k hg24 (by decide)).trans ((hg15 d0 11 0 1 (qb10 _ _ (qr2 _ _ hs_d0)) (by decide)).trans ((xs_n hg12 (qr2 _ _ hs_d0) nb10).trans ((hg3 d0 11 0 1 hs_d0 (by decide)).trans ((xs_k hg1 (by decide)).trans eln))))) kd43_14.2.2.2.2.2.2.2.2.2.2.1 ?_
  exact hret _ _ _ _ _ _ _ kd43_14.2.2.2.2.2.2.2.2.2.2.2 ⟨(xNw2.tr (xNw2.tr (xNw2.tr (xNw2.tr xNw2.rf wr2 (by decide)) (hSb10 ▸ xNw2.set (by decide)) (fun _ h => h)) wr14 (by decide)) (hSy23 ▸ xNw2.set (by decide)) (fun _ h => h)), ln, rfl, (by omega), (by omega), (xLs_up (xLs_seal A20 (qr14 _ _ hs_b10) hSy23 (by decide) (by decide)) hg24 (xhs_seal hoy23 (qr14 _ _ hs_b10) (qr14 _ _ (qb10 _ _ (qr2 _ _ hs_a0))) (by decide)) (by decide)), (xSi.nw (xSi.nw (xSi.nw (xSi.nw hp1 wr2 (by decide)) (xNw2.one hSb10) (by decide)) wr14 (by decide)) (xNw2.one hSy23) (by decide)), (by omega), (by omega), (((xs_k hg24 (by decide)).trans ((hg15 tx 300 0 2 (qb10 _ _ (qr2 _ _ hs_tx)) (by decide)).trans ((xs_n hg12 (qr2 _ _ hs_tx) nb10).trans k7))).trans (by congr 2 <;> omega)), ⟨(xXW.m xw7 (xM_up (L := [(12, 7)]) xM.rf hg24 (xhs_seal hoy23 (qr14 _ _ hs_b10) (qr14 _ _ (qb10 _ _ (qr2 _ _ hs_a0))) (by decide)) (by decide) (by decide)) xLe.rf (by decide)), (xET.m et7 (xM_up (L := [(12, 7)]) xM.rf hg24 (xhs_seal hoy23 (qr14 _ _ hs_b10) (qr14 _ _ (qb10 _ _ (qr2 _ _ hs_a0))) (by decide)) (by decide) (by decide)) xLe.rf (by decide)), (xDS.new xw9 et9 (xM_up hm9 hg24 (qr2 _ _ hs_a0) (by decide) (by decide)) hl9 (by decide) (xhs_seal hoy23 (qr14 _ _ hs_b10) (qr14 _ _ (qb10 _ _ (qr2 _ _ hs_a0))) (by decide)) nb10 (xLe.nn qb10 n3dr21) (xLe.nn qb10 n4dr21) (xLe.nn qb10 n5dr21) (xLe.nn qb10 n6dr21) (xLe.nn qb10 n7dr21) (xs_s hg24) hs_y23 ((xs_k hg24 (by decide)).trans e3dr21) ((xs_k hg24 (by decide)).trans e4dr21) ((xs_k hg24 (by decide)).trans e5dr21) ((xs_k hg24 (by decide)).trans e6dr21) ((xs_a hg24 (xne hs_y23 (xhs_seal hoy23 (qr14 _ _ hs_b10) (qr14 _ _ (qb10 _ _ (qr2 _ _ hs_a0))) (by decide)) (by decide))).trans e7dr21))⟩⟩ (by omega) (by omega)

set_option maxHeartbeats 4000000 in
set_option maxRecDepth 100000 in
theorem m_terms (l : Launch) (D : va_G) (kA : Nat → ClassId) (b0 : Nat) (t0 : Nat → Nat) (S : xT) (g : xG) (a0 : Nat) (x1 : Int) (w0 : Nat) (n0 : Int) (tx : Nat) (tn : Int) (et : Nat) (tdd : Int) (ff : Int) (y0 : Nat) (Xt : Int → Nat) (TT : Int → List xL3) (fr : Int → Int) (hs_a0 : S a0 = some (12, 0)) (hx1 : (-2147483648) ≤ x1 ∧ x1 ≤ 2147483647) (ew0 : g a0 0 = .ref w0) (hs_w0 : S w0 = some (10, 0)) (hn0 : 0 ≤ n0 ∧ n0 ≤ 420) (en0 : g w0 1 = .int (iI n0)) (etx : g a0 4 = .ref tx) (hs_tx : S tx = some (300, 0)) (htn : 0 ≤ tn ∧ tn ≤ 10) (etn : g tx 2 = .int (iI tn)) (eet : g a0 5 = .ref et) (hs_et : S et = some (11, 0)) (htdd : 0 ≤ tdd ∧ tdd ≤ 400) (etdd : g a0 12 = .int (iI tdd)) (hff : (-2147483648) ≤ ff ∧ ff ≤ 2147483647) (eff : g a0 13 = .int (iI ff)) (ey0 : g w0 0 = .ref y0) (hs_y0 : S y0 = some (13500, 420)) (hp0 : xLs S g) (hp1 : xSi S t0) (hp2 : xXW S g tx tn Xt TT fr) (hp3 : xET S g et) (hp4 : xDS S g a0 Xt tn et) : xMu l yX11_terms cX11_terms 3 (some .int) 36 7 416 838 D kA b0 t0 [(10, 1), (12900, 0), (13000, 0), (8, 2), (8, 3), (8, 4), (8, 5), (8, 6), (11, 1), (11, 2), (13600, 0), (13700, 0), (13800, 0), (13900, 0), (14000, 0), (12, 13), (11, 0), (300, 0), (300, 1), (300, 2), (10303, 0), (5011, 0), (5011, 1), (5011, 2), (5011, 3), (5011, 4), (5011, 5), (5011, 6), (5011, 7), (12, 7)] [.ref a0, .int (iI x1)] S g (fun (r : Option Value) (S1 : xT) (g1 : xG) (dc ds : Nat) => xNw2 S S1 [5011, 11, 10303, 13600, 13700, 13800, 13900, 14000] ∧ ∃ z : Int, r = some (.int (iI z)) ∧ (-1000) ≤ z ∧ z ≤ 16 ∧ (xLs S1 g1) ∧ (xSi S1 t0) ∧ (dc ≤ 7 ∧ ds ≤ 416) ∧ (g1 w0 1 = .int (iI (0))) ∧ (∃ F1 n1 : Int, g1 a0 13 = .int (iI F1) ∧ g1 tx 2 = .int (iI n1) ∧ (-2147483648 ≤ F1 ∧ F1 ≤ 2147483647) ∧ (0 ≤ n1 ∧ n1 ≤ 10) ∧ ∃ (X1 : Int → Nat) (TT1 : Int → List xL3) (fr1 : Int → Int), xXW S1 g1 tx n1 X1 TT1 fr1 ∧ xET S1 g1 et ∧ xDS S1 g1 a0 X1 n1 et ∧ xTEg (xv g y0) n0 tn tdd x1 ff TT fr F1 n1 z TT1 fr1)) := by
  refine xEnterUI (by decide) (by simp [lg_sl, Value.category]) [(0, .ref a0), (1, .int (iI x1))] rfl ?_
  intro K E hK hret hS0 _ hini ht
  subst ht
  refine X_sipush hK kd43_15.1 (by decide) ?_
  refine X_istoren hK (i := 2) [(2, .int (iI (-1000))), (0, .ref a0), (1, .int (iI x1))] kd43_15.2.1 rfl (by decide) rfl ?_
  refine X_aloadn hK (i := 0) 1 kd43_15.2.2.1 rfl rfl ?_
  refine X_getK hK fl_X11_38_12 hs_a0 etx kd43_15.2.2.2.1 ?_
  refine X_callV hK [] [] lk_X11_112 (c_size_300 _ _ _ _ _ S g tx tn hs_tx (by omega) etn hp0) hs_tx ⟨by decide, rfl⟩ kd43_15.2.2.2.2.1 rfl rfl (by simp [Value.category]) (by decide) (by omega) (by omega) (by decide) (fun r1 S3 g2 pr1 qr1 hg2 => ?_)
  obtain ⟨rfl, rfl, z4, rfl, lz4, uz4, k5⟩ := pr1
  refine X_st [.int (iI z4)] rfl ?_
  refine X_bipush hK kd43_15.2.2.2.2.2.1 (by decide) ?_
  refine X_icmp_ge hK 82 (by omega) (by omega) kd43_15.2.2.2.2.2.2.1 (by decide) (fun c6 => ?_) (fun c6 => ?_)
  · refine X_aloadn hK (i := 0) 1 kd43_18.2.2.2.1 rfl rfl ?_
    refine X_getK hK fl_X11_10_12 hs_a0 ew0 kd43_18.2.2.2.2.1 ?_
    refine X_iconst hK kd43_18.2.2.2.2.2.1 ?_
    refine X_puti hK fl_X11_102_10 hs_w0 (by decide) sl_10_1 (by omega) (by omega) kd43_18.2.2.2.2.2.2.1 (fun g7 hg7 => ?_)
    refine X_iloadn hK (i := 2) 0 kd43_18.2.2.2.2.2.2.2.1 rfl rfl ?_
    exact hret _ _ _ _ _ _ _ kd43_18.2.2.2.2.2.2.2.2.1 ⟨xNw2.rf, (-1000), rfl, (by omega), (by omega), (xLs_up hp0 hg7 hs_w0 (by decide)), hp1, (by omega), ((xs_s hg7).trans (by congr 2 <;> omega)), ⟨ff, tn, ((xs_k hg7 (by decide)).trans eff), ((xs_k hg7 (by decide)).trans etn), by omega, by omega, Xt, TT, fr, (xXW.m hp2 (xM_up (L := [(10, 1)]) xM.rf hg7 hs_w0 (by decide) (by decide)) xLe.rf (by decide)), (xET.m hp3 (xM_up (L := [(10, 1)]) xM.rf hg7 hs_w0 (by decide) (by decide)) xLe.rf (by decide)), (xDS.m hp4 (xM_up (L := [(10, 1)]) xM.rf hg7 hs_w0 (by decide) (by decide)) xLe.rf (by decide)), Or.inl ⟨by omega, by omega, by omega, by omega, rfl, rfl⟩⟩⟩ (by omega) (by omega)
  · refine X_iloadn hK (i := 1) 2 kd43_15.2.2.2.2.2.2.2.1 rfl rfl ?_
    refine X_callS hK [.int (iI x1)] [] lk_X11_159 (c_X11_isDay _ _ _ _ _ S g x1 (by omega)) kd43_15.2.2.2.2.2.2.2.2.1 rfl rfl (by simp [Value.category]) (by decide) (by omega) (by omega) (by decide) (fun r8 S10 g9 pr8 qr8 hg9 => ?_)
    obtain ⟨rfl, rfl, z11, rfl, lz11, uz11, k12⟩ := pr8
    refine X_st [.int (iI z11)] rfl ?_
    refine X_if_eq hK 82 (by omega) kd43_15.2.2.2.2.2.2.2.2.2.1 (by decide) (fun c13 => ?_) (fun c13 => ?_)
    · refine X_aloadn hK (i := 0) 1 kd43_18.2.2.2.1 rfl rfl ?_
      refine X_getK hK fl_X11_10_12 hs_a0 ew0 kd43_18.2.2.2.2.1 ?_
      refine X_iconst hK kd43_18.2.2.2.2.2.1 ?_
      refine X_puti hK fl_X11_102_10 hs_w0 (by decide) sl_10_1 (by omega) (by omega) kd43_18.2.2.2.2.2.2.1 (fun g14 hg14 => ?_)
      refine X_iloadn hK (i := 2) 0 kd43_18.2.2.2.2.2.2.2.1 rfl rfl ?_
      exact hret _ _ _ _ _ _ _ kd43_18.2.2.2.2.2.2.2.2.1 ⟨xNw2.rf, (-1000), rfl, (by omega), (by omega), (xLs_up hp0 hg14 hs_w0 (by decide)), hp1, (by omega), ((xs_s hg14).trans (by congr 2 <;> omega)), ⟨ff, tn, ((xs_k hg14 (by decide)).trans eff), ((xs_k hg14 (by decide)).trans etn), by omega, by omega, Xt, TT, fr, (xXW.m hp2 (xM_up (L := [(10, 1)]) xM.rf hg14 hs_w0 (by decide) (by decide)) xLe.rf (by decide)), (xET.m hp3 (xM_up (L := [(10, 1)]) xM.rf hg14 hs_w0 (by decide) (by decide)) xLe.rf (by decide)), (xDS.m hp4 (xM_up (L := [(10, 1)]) xM.rf hg14 hs_w0 (by decide) (by decide)) xLe.rf (by decide)), Or.inl ⟨by omega, by omega, by omega, by omega, rfl, rfl⟩⟩⟩ (by omega) (by omega)
    · refine X_iloadn hK (i := 1) 2 kd43_15.2.2.2.2.2.2.2.2.2.2.1 rfl rfl ?_
      refine X_aloadn hK (i := 0) 1 kd43_15.2.2.2.2.2.2.2.2.2.2.2 rfl rfl ?_
      refine X_getK hK fl_X11_83_12 hs_a0 etdd kd43_16.1 ?_
      refine X_icmp_lt hK 82 (by omega) (by omega) kd43_16.2.1 (by decide) (fun c15 => ?_) (fun c15 => ?_)
      · refine X_aloadn hK (i := 0) 1 kd43_18.2.2.2.1 rfl rfl ?_
        refine X_getK hK fl_X11_10_12 hs_a0 ew0 kd43_18.2.2.2.2.1 ?_
        refine X_iconst hK kd43_18.2.2.2.2.2.1 ?_
        refine X_puti hK fl_X11_102_10 hs_w0 (by decide) sl_10_1 (by omega) (by omega) kd43_18.2.2.2.2.2.2.1 (fun g16 hg16 => ?_)
        refine X_iloadn hK (i := 2) 0 kd43_18.2.2.2.2.2.2.2.1 rfl rfl ?_
        exact hret _ _ _ _ _ _ _ kd43_18.2.2.2.2.2.2.2.2.1 ⟨xNw2.rf, (-1000), rfl, (by omega), (by omega), (xLs_up hp0 hg16 hs_w0 (by decide)), hp1, (by omega), ((xs_s hg16).trans (by congr 2 <;> omega)), ⟨ff, tn, ((xs_k hg16 (by decide)).trans eff), ((xs_k hg16 (by decide)).trans etn), by omega, by omega, Xt, TT, fr, (xXW.m hp2 (xM_up (L := [(10, 1)]) xM.rf hg16 hs_w0 (by decide) (by decide)) xLe.rf (by decide)), (xET.m hp3 (xM_up (L := [(10, 1)]) xM.rf hg16 hs_w0 (by decide) (by decide)) xLe.rf (by decide)), (xDS.m hp4 (xM_up (L := [(10, 1)]) xM.rf hg16 hs_w0 (by decide) (by decide)) xLe.rf (by decide)), Or.inl ⟨by omega, by omega, by omega, by omega, rfl, rfl⟩⟩⟩ (by omega) (by omega)
      · refine X_aloadn hK (i := 0) 1 kd43_16.2.2.1 rfl rfl ?_
        refine X_getr hK 8 0 fl_X11_52_12 hs_a0 sl_12_6 kd43_16.2.2.2.1 (fun b17 eb17 hs_b17 => ?_)
        refine X_aloadn hK (i := 0) 1 kd43_16.2.2.2.2.1 rfl rfl ?_
        refine X_getK hK fl_X11_10_12 hs_a0 ew0 kd43_16.2.2.2.2.2.1 ?_
        refine X_aloadn hK (i := 0) 1 kd43_16.2.2.2.2.2.2.1 rfl rfl ?_
        refine X_getr hK 11 0 fl_X11_56_12 hs_a0 sl_12_7 kd43_16.2.2.2.2.2.2.2.1 (fun b18 eb18 hs_b18 => ?_)
        refine X_knowr 12900 301 hs_b17 (by decide) sl_8_0 (fun b19 eb19 hs_b19 => ?_)
        refine X_knowr 13000 301 hs_b17 (by decide) sl_8_1 (fun b20 eb20 hs_b20 => ?_)
        refine X_knowr 13600 16 hs_b18 (by decide) sl_11_3 (fun b21 eb21 hs_b21 => ?_)
        refine X_knowr 13700 16 hs_b18 (by decide) sl_11_4 (fun b22 eb22 hs_b22 => ?_)
        refine X_knowr 13800 16 hs_b18 (by decide) sl_11_5 (fun b23 eb23 hs_b23 => ?_)
        refine X_knowr 13900 16 hs_b18 (by decide) sl_11_6 (fun b24 eb24 hs_b24 => ?_)
        refine X_knowr 14000 100 hs_b18 (by decide) sl_11_7 (fun b25 eb25 hs_b25 => ?_)
        refine X_callV hK [.ref w0, .ref b18] [] lk_X11_193 (m_read _ _ _ _ _ S g b17 w0 b18 b19 b20 y0 n0 b21 b22 b23 b24 b25 hs_b17 hs_w0 hs_b18 eb19 hs_b19 eb20 hs_b20 ey0 hs_y0 (by omega) en0 eb21 hs_b21 eb22 hs_b22 eb23 hs_b23 eb24 hs_b24 eb25 hs_b25) hs_b17 ⟨by decide, rfl⟩ kd43_16.2.2.2.2.2.2.2.2.1 rfl rfl (by simp [Value.category]) (by decide) (by omega) (by omega) (by decide) (fun r26 S28 g27 pr26 qr26 hg27 => ?_)
        obtain ⟨rfl, rfl, k29⟩ := pr26
        refine X_st [] rfl ?_
        obtain ⟨Ft30, mt30, qt30, eFt30, lFt30, uFt30, emt30, lmt30, umt30, eqt30, lqt30, uqt30, Tt30, kt30, ct30, f0t30, f1t30, f2t30, f3t30, f4t30, f5t30⟩ := k29
        have xsR := xDS.at (xDS.m hp4 hg27 xLe.rf (by decide)) ((hg27 a0 12 0 7 hs_a0 (by decide)).trans eb18) ((hg27 b18 11 0 3 hs_b18 (by decide)).trans eb21) ((hg27 b18 11 0 4 hs_b18 (by decide)).trans eb22) ((hg27 b18 11 0 5 hs_b18 (by decide)).trans eb23) ((hg27 b18 11 0 6 hs_b18 (by decide)).trans eb24) ((hg27 b18 11 0 7 hs_b18 (by decide)).trans eb25)
        have xwR : xXW S g27 tx tn Xt TT fr := xXW.kp hp2 xsR hg27 (by decide) f5t30 f0t30 f1t30 f2t30 f3t30 f4t30
        have etR : xET S g27 et := xET.kp hp3 xsR f5t30 f0t30 f1t30 f2t30 f3t30 f4t30
        refine X_aloadn hK (i := 0) 1 kd43_16.2.2.2.2.2.2.2.2.2.1 rfl rfl ?_
        refine X_aloadn hK (i := 0) 1 kd43_16.2.2.2.2.2.2.2.2.2.2.1 rfl rfl ?_
        refine X_getK hK fl_X11_52_12 hs_a0 ((hg27 a0 12 0 6 hs_a0 (by decide)).trans eb17) kd43_16.2.2.2.2.2.2.2.2.2.2.2 ?_
        refine X_getK hK fl_X11_197_8 hs_b17 eFt30 kd43_17.1 ?_
        refine X_puti hK fl_X11_87_12 hs_a0 (by decide) sl_12_13 (by omega) (by omega) kd43_17.2.1 (fun g31 hg31 => ?_)
        refine X_aloadn hK (i := 0) 1 kd43_17.2.2.1 rfl rfl ?_
        refine X_getK hK fl_X11_87_12 hs_a0 (xs_s hg31) kd43_17.2.2.2.1 ?_
        refine X_if_ne hK 72 (by omega) kd43_17.2.2.2.2.1 (by decide) (fun c32 => ?_) (fun c32 => ?_)
        · refine X_iconst hK kd43_17.2.2.2.2.2.2.2.2.2.1 ?_
          refine X_aloadn hK (i := 0) 1 kd43_17.2.2.2.2.2.2.2.2.2.2.1 rfl rfl ?_
          refine X_getK hK fl_X11_52_12 hs_a0 ((xs_k hg31 (by decide)).trans ((hg27 a0 12 0 6 hs_a0 (by decide)).trans eb17)) kd43_17.2.2.2.2.2.2.2.2.2.2.2 ?_
          refine X_getK hK fl_X11_202_8 hs_b17 ((xs_k hg31 (by decide)).trans eqt30) kd43_18.1 ?_
          refine X_isub hK kd43_18.2.1 ?_
          refine X_istoren hK (i := 2) [(2, .int (iI ((-1) - qt30))), (0, .ref a0), (1, .int (iI x1))] kd43_18.2.2.1 rfl (by decide) rfl ?_
          refine X_aloadn hK (i := 0) 1 kd43_18.2.2.2.1 rfl rfl ?_
          refine X_getK hK fl_X11_10_12 hs_a0 ((xs_k hg31 (by decide)).trans ((hg27 a0 12 0 0 hs_a0 (by decide)).trans ew0)) kd43_18.2.2.2.2.1 ?_
          refine X_iconst hK kd43_18.2.2.2.2.2.1 ?_
          refine X_puti hK fl_X11_102_10 hs_w0 (by decide) sl_10_1 (by omega) (by omega) kd43_18.2.2.2.2.2.2.1 (fun g33 hg33 => ?_)
          refine X_iloadn hK (i := 2) 0 kd43_18.2.2.2.2.2.2.2.1 rfl rfl ?_
          exact hret _ _ _ _ _ _ _ kd43_18.2.2.2.2.2.2.2.2.1 ⟨xNw2.rf, ((-1) - qt30), rfl, (by omega), (by omega), (xLs_up (xLs_up (xLs_mod hp0 hg27 (by decide)) hg31 hs_a0 (by decide)) hg33 hs_w0 (by decide)), hp1, (by omega), ((xs_s hg33).trans (by congr 2 <;> omega)), ⟨Ft30, tn, ((xs_k hg33 (by decide)).trans (xs_s hg31)), ((xs_k hg33 (by decide)).trans ((xs_k hg31 (by decide)).trans ((hg27 tx 300 0 2 hs_tx (by decide)).trans etn))), by omega, by omega, Xt, TT, fr, (xXW.m (xXW.m xwR (xM_up (L := [(12, 13)]) xM.rf hg31 hs_a0 (by decide) (by decide)) xLe.rf (by decide)) (xM_up (L := [(10, 1)]) xM.rf hg33 hs_w0 (by decide) (by decide)) xLe.rf (by decide)), (xET.m (xET.m etR (xM_up (L := [(12, 13)]) xM.rf hg31 hs_a0 (by decide) (by decide)) xLe.rf (by decide)) (xM_up (L := [(10, 1)]) xM.rf hg33 hs_w0 (by decide) (by decide)) xLe.rf (by decide)), (xDS.m (xDS.m (xDS.m hp4 hg27 xLe.rf (by decide)) (xM_up (L := [(12, 13)]) xM.rf hg31 hs_a0 (by decide) (by decide)) xLe.rf (by decide)) (xM_up (L := [(10, 1)]) xM.rf hg33 hs_w0 (by decide) (by decide)) xLe.rf (by decide)), Or.inr ⟨by omega, mt30, qt30, Tt30, kt30, (fun h9 => absurd h9 (by omega)), (fun h9 => ⟨by omega, by omega, rfl, rfl⟩)⟩⟩⟩ (by omega) (by omega)
        · refine X_aloadn hK (i := 0) 1 kd43_17.2.2.2.2.2.1 rfl rfl ?_
          refine X_iloadn hK (i := 1) 2 kd43_17.2.2.2.2.2.2.1 rfl rfl ?_
          refine X_callVU hK [.int (iI x1)] [] lk_X11_198 (m_takeDraft _ _ _ _ _ S g31 a0 x1 tx tn et b18 mt30 b21 b22 b23 b24 b25 Xt TT fr Tt30 hs_a0 (by omega) ((xs_k hg31 (by decide)).trans ((hg27 a0 12 0 4 hs_a0 (by decide)).trans etx)) hs_tx (by omega) ((xs_k hg31 (by decide)).trans ((hg27 tx 300 0 2 hs_tx (by decide)).trans etn)) ((xs_k hg31 (by decide)).trans ((hg27 a0 12 0 5 hs_a0 (by decide)).trans eet)) hs_et ((xs_k hg31 (by decide)).trans ((hg27 a0 12 0 7 hs_a0 (by decide)).trans eb18)) hs_b18 (by omega) ((xs_k hg31 (by decide)).trans emt30) ((xs_k hg31 (by decide)).trans ((hg27 b18 11 0 3 hs_b18 (by decide)).trans eb21)) hs_b21 ((xs_k hg31 (by decide)).trans ((hg27 b18 11 0 4 hs_b18 (by decide)).trans eb22)) hs_b22 ((xs_k hg31 (by decide)).trans ((hg27 b18 11 0 5 hs_b18 (by decide)).trans eb23)) hs_b23 ((xs_k hg31 (by decide)).trans ((hg27 b18 11 0 6 hs_b18 (by decide)).trans eb24)) hs_b24 ((xs_k hg31 (by decide)).trans ((hg27 b18 11 0 7 hs_b18 (by decide)).trans eb25)) hs_b25 (xLs_up (xLs_mod hp0 hg27 (by decide)) hg31 hs_a0 (by decide)) hp1 (xXW.m xwR (xM_up (L := [(12, 13)]) xM.rf hg31 hs_a0 (by decide) (by decide)) xLe.rf (by decide)) (xET.m etR (xM_up (L := [(12, 13)]) xM.rf hg31 hs_a0 (by decide) (by decide)) xLe.rf (by decide)) (xDS.m (xDS.m hp4 hg27 xLe.rf (by decide)) (xM_up (L := [(12, 13)]) xM.rf hg31 hs_a0 (by decide) (by decide)) xLe.rf (by decide)) (by rw [(xv_a hg31 (xne hs_b21 hs_a0 (by decide))), (xv_a hg31 (xne hs_b22 hs_a0 (by decide))), (xv_a hg31 (xne hs_b23 hs_a0 (by decide))), (xv_a hg31 (xne hs_b24 hs_a0 (by decide))), (xv_a hg31 (xne hs_b25 hs_a0 (by decide)))]; exact (ct30 (by omega)))) hs_a0 ⟨by decide, rfl⟩ kd43_17.2.2.2.2.2.2.2.1 rfl rfl (by simp [Value.category]) (by decide) (by omega) (by omega) (by decide) (fun r34 S36 g35 dcr34 dsr34 pr34 qr34 hg35 => ?_)
          obtain ⟨wr34, z37, rfl, lz37, uz37, k38, k39, k40, k41, k42, k43⟩ := pr34
          refine X_st [.int (iI z37)] rfl ?_
          refine X_goto hK 81 kd43_17.2.2.2.2.2.2.2.2.1 (by decide) ?_
          refine X_istoren hK (i := 2) [(2, .int (iI z37)), (0, .ref a0), (1, .int (iI x1))] kd43_18.2.2.1 rfl (by decide) rfl ?_
          refine X_aloadn hK (i := 0) 1 kd43_18.2.2.2.1 rfl rfl ?_
          refine X_getK hK fl_X11_10_12 (qr34 _ _ hs_a0) ((hg35 a0 12 0 0 hs_a0 (by decide)).trans ((xs_k hg31 (by decide)).trans ((hg27 a0 12 0 0 hs_a0 (by decide)).trans ew0))) kd43_18.2.2.2.2.1 ?_
          refine X_iconst hK kd43_18.2.2.2.2.2.1 ?_
          refine X_puti hK fl_X11_102_10 (qr34 _ _ hs_w0) (by decide) sl_10_1 (by omega) (by omega) kd43_18.2.2.2.2.2.2.1 (fun g44 hg44 => ?_)
          refine X_iloadn hK (i := 2) 0 kd43_18.2.2.2.2.2.2.2.1 rfl rfl ?_
          exact hret _ _ _ _ _ _ _ kd43_18.2.2.2.2.2.2.2.2.1 ⟨(xNw2.tr xNw2.rf wr34 (by decide)), z37, rfl, (by omega), (by omega), (xLs_up k38 hg44 (qr34 _ _ hs_w0) (by decide)), k39, (by omega), ((xs_s hg44).trans (by congr 2 <;> omega)), ⟨Ft30, (tn + 1), ((xs_k hg44 (by decide)).trans ((hg35 a0 12 0 13 hs_a0 (by decide)).trans (xs_s hg31))), ((xs_k hg44 (by decide)).trans k42), by omega, by omega, _, _, _, (xXW.m k43.1 (xM_up (L := [(10, 1)]) xM.rf hg44 (qr34 _ _ hs_w0) (by decide) (by decide)) xLe.rf (by decide)), (xET.m k43.2.1 (xM_up (L := [(10, 1)]) xM.rf hg44 (qr34 _ _ hs_w0) (by decide) (by decide)) xLe.rf (by decide)), (xDS.m k43.2.2 (xM_up (L := [(10, 1)]) xM.rf hg44 (qr34 _ _ hs_w0) (by decide) (by decide)) xLe.rf (by decide)), Or.inr ⟨by omega, mt30, qt30, Tt30, kt30, (fun h9 => ⟨by omega, by omega, rfl, rfl⟩), (fun h9 => absurd (by omega) h9)⟩⟩⟩ (by omega) (by omega)
