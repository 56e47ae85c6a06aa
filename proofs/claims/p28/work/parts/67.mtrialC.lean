
def xOT (S : xT) (g : xG) (a : Nat) (T : List xL3) : Prop := S a = some (11, 0) ∧ ∃ (wk wn wf wb ws : Nat) (ln : Int), g a 1 = .int (iI ln) ∧ (0 ≤ ln ∧ ln ≤ 16) ∧ g a 3 = .ref wk ∧ S wk = some (13600, 16) ∧ g a 4 = .ref wn ∧ S wn = some (13700, 16) ∧ g a 5 = .ref wf ∧ S wf = some (13800, 16) ∧ g a 6 = .ref wb ∧ S wb = some (13900, 16) ∧ g a 7 = .ref ws ∧ S ws = some (14000, 100) ∧ xTc9 (xv g wk) (xv g wn) (xv g wf) (xv g wb) (xv g ws) ln T
theorem xOT.m {S S1 : xT} {g g1 : xG} {a : Nat} {T : List xL3} {L : List (Nat × Nat)} (h : xOT S g a T) (hm : xM L S g g1) (hle : xLe S S1) (hL : ∀ x ∈ [(11, 1), (11, 3), (11, 4), (11, 5), (11, 6), (11, 7), (13600, 0), (13700, 0), (13800, 0), (13900, 0), (14000, 0)], x ∉ L) : xOT S1 g1 a T := by
  obtain ⟨h0, wk, wn, wf, wb, ws, ln, e1, r1, e3, s3, e4, s4, e5, s5, e6, s6, e7, s7, t⟩ := h
  have f : ∀ k : Nat, (11, k) ∉ L → g1 a k = g a k := fun k hk => hm a 11 0 k h0 (by rw [xky_o (by decide)]; exact hk)
  refine ⟨hle _ _ h0, wk, wn, wf, wb, ws, ln, ?_, r1, ?_, hle _ _ s3, ?_, hle _ _ s4, ?_, hle _ _ s5, ?_, hle _ _ s6, ?_, hle _ _ s7, ?_⟩
  · rw [f 1 (hL _ (by decide))]; exact e1
  · rw [f 3 (hL _ (by decide))]; exact e3
  · rw [f 4 (hL _ (by decide))]; exact e4
  · rw [f 5 (hL _ (by decide))]; exact e5
  · rw [f 6 (hL _ (by decide))]; exact e6
  · rw [f 7 (hL _ (by decide))]; exact e7
  · rw [xv_m hm s3 (by decide) (hL _ (by decide)), xv_m hm s4 (by decide) (hL _ (by decide)), xv_m hm s5 (by decide) (hL _ (by decide)), xv_m hm s6 (by decide) (hL _ (by decide)), xv_m hm s7 (by decide) (hL _ (by decide))]; exact t
def xXW (S : xT) (g : xG) (tx : Nat) (tn : Int) (X : Int → Nat) (TT : Int → List xL3) (fr : Int → Int) : Prop := xLv S g tx 300 10303 tn ∧ ∀ k : Int, 0 ≤ k → k < tn → xel g tx k = X k ∧ xOT S g (X k) (TT k) ∧ g (X k) 0 = .int (iI (fr k)) ∧ 0 ≤ fr k ∧ fr k ≤ 399
def xET (S : xT) (g : xG) (et : Nat) : Prop := xOT S g et [] ∧ g et 0 = .int (iI (-1))
theorem xXW.m {S S1 : xT} {g g1 : xG} {tx : Nat} {tn : Int} {X : Int → Nat} {TT : Int → List xL3} {fr : Int → Int} {L : List (Nat × Nat)} (h : xXW S g tx tn X TT fr) (hm : xM L S g g1) (hle : xLe S S1) (hL : ∀ x ∈ [(300, 1), (10303, 0), (11, 0), (11, 1), (11, 3), (11, 4), (11, 5), (11, 6), (11, 7), (13600, 0), (13700, 0), (13800, 0), (13900, 0), (14000, 0)], x ∉ L) : xXW S1 g1 tx tn X TT fr := ⟨h.1.m hm hle (by decide) (hL _ (by decide)), fun k q1 q2 => by
  obtain ⟨a1, a2, a3, a4⟩ := h.2 k q1 q2
  have hO : ∀ x ∈ [(11, 1), (11, 3), (11, 4), (11, 5), (11, 6), (11, 7), (13600, 0), (13700, 0), (13800, 0), (13900, 0), (14000, 0)], x ∉ L := fun x hx => hL x ((by decide : ∀ y ∈ [(11, 1), (11, 3), (11, 4), (11, 5), (11, 6), (11, 7), (13600, 0), (13700, 0), (13800, 0), (13900, 0), (14000, 0)], y ∈ [(300, 1), (10303, 0), (11, 0), (11, 1), (11, 3), (11, 4), (11, 5), (11, 6), (11, 7), (13600, 0), (13700, 0), (13800, 0), (13900, 0), (14000, 0)]) x hx)
  refine ⟨(h.1.el hm (by decide) (by decide) (hL _ (by decide)) (hL _ (by decide)) ⟨q1, q2⟩).trans a1, a2.m hm hle hO, ?_, a4⟩
  rw [hm (X k) 11 0 0 a2.1 (by rw [xky_o (by decide)]; exact hL _ (by decide))]
  exact a3⟩
theorem xET.m {S S1 : xT} {g g1 : xG} {et : Nat} {L : List (Nat × Nat)} (h : xET S g et) (hm : xM L S g g1) (hle : xLe S S1) (hL : ∀ x ∈ [(300, 1), (10303, 0), (11, 0), (11, 1), (11, 3), (11, 4), (11, 5), (11, 6), (11, 7), (13600, 0), (13700, 0), (13800, 0), (13900, 0), (14000, 0)], x ∉ L) : xET S1 g1 et := by
  have hO : ∀ x ∈ [(11, 1), (11, 3), (11, 4), (11, 5), (11, 6), (11, 7), (13600, 0), (13700, 0), (13800, 0), (13900, 0), (14000, 0)], x ∉ L := fun x hx => hL x ((by decide : ∀ y ∈ [(11, 1), (11, 3), (11, 4), (11, 5), (11, 6), (11, 7), (13600, 0), (13700, 0), (13800, 0), (13900, 0), (14000, 0)], y ∈ [(300, 1), (10303, 0), (11, 0), (11, 1), (11, 3), (11, 4), (11, 5), (11, 6), (11, 7), (13600, 0), (13700, 0), (13800, 0), (13900, 0), (14000, 0)]) x hx)
  refine ⟨h.1.m hm hle hO, ?_⟩
  rw [hm et 11 0 0 h.1.1 (by rw [xky_o (by decide)]; exact hL _ (by decide))]
  exact h.2
def xft9 (fr : Int → Int) (t : Int) : Int := if t = -1 then -1 else fr t
theorem xXW.at {S : xT} {g : xG} {tx et a : Nat} {tn n d t : Int} {X : Int → Nat} {TT : Int → List xL3} {fr : Int → Int} (h : xXW S g tx tn X TT fr) (h2 : xET S g et) (hn : n ≤ tn) (ht : xTf n fr d t) (ha : a = if t = -1 then et else X t) : xOT S g a (xTt9 TT t) ∧ g a 0 = .int (iI (xft9 fr t)) ∧ (-1 ≤ xft9 fr t ∧ xft9 fr t ≤ 399) := by
  unfold xTt9 xft9
  by_cases e : t = -1
  · rw [if_pos e] at ha
    rw [if_pos e, if_pos e, ha]
    exact ⟨h2.1, h2.2, by omega⟩
  · rw [if_neg e] at ha
    rw [if_neg e, if_neg e, ha]
    have r : 0 ≤ t ∧ t < n := by
      rcases ht with w | w
      · exact absurd w.1 e
      · exact w.1
    obtain ⟨a1, a2, a3, a4⟩ := h.2 t r.1 (by omega)
    exact ⟨a2, a3, by omega⟩
theorem xOT.b {S : xT} {g : xG} {a : Nat} {T : List xL3} (h : xOT S g a T) (F : Int → Int) (w : Int) : 0 ≤ xts9 T F w ∧ xts9 T F w ≤ 1000 := by
  obtain ⟨h0, wk, wn, wf, wb, ws, ln, e1, r1, e3, s3, e4, s4, e5, s5, e6, s6, e7, s7, t⟩ := h
  exact xts9.r (fun i hi => ((t.2.2 (i : Int) (by omega) (by have := t.1; omega)).2.2.2).2) F w
def xyn (Y : Nat → Int → Int) (n b p c cp ho td cs : Int) : Nat → Int → Int := fun f k => if k = n then (if f = 0 then b else if f = 1 then p else if f = 2 then c else if f = 3 then cp else if f = 4 then ho else if f = 5 then td else if f = 6 then (4 * td + p) * 10 + c else if f = 7 then cs else 0) else Y f k
theorem xyn.o {Y : Nat → Int → Int} {n b p c cp ho td cs k : Int} {f : Nat} (h : k ≠ n) : xyn Y n b p c cp ho td cs f k = Y f k := if_neg h
def xyb (Y : Nat → Int → Int) (n ag sc fi bd : Int) : Nat → Int → Int := fun f k => if k = n then (if f = 0 then n else if f = 1 then ag else if f = 2 then sc else if f = 3 then fi else if f = 4 then bd else 0) else Y f k
theorem xyb.o {Y : Nat → Int → Int} {n ag sc fi bd k : Int} {f : Nat} (h : k ≠ n) : xyb Y n ag sc fi bd f k = Y f k := if_neg h
theorem xLe.sl {S S2 S3 : xT} {q : Nat} {y : Nat × Nat} (hq : S q = none) (h : xLe S S2) (h3 : S3 = xset S2 q y) : xLe S S3 := fun a p ha => by
  rw [h3, xset_o (fun e => by rw [e, hq] at ha; cases ha)]
  exact h a p ha
theorem xBW.put {S : xT} {g g1 : xG} {bo : Nat} {nb k c : Int} {B : Int → Nat} {Y : Nat → Int → Int} (h : xBW S g bo nb B Y) (hn : nb ≤ 40) (hk : 0 ≤ k ∧ k < nb) (hg : g1 = xup g (B k) 5 (.int (iI c))) (rc : -2147483648 ≤ c ∧ c ≤ 2147483647) : xBW S g1 bo nb B (xyu Y 5 k c) :=
  xBW.cry (L := [(1, 5)]) h hn (xM_up xM.rf hg (h.2 k hk.1 hk.2).2.1 (by decide) (by decide)) (xFr.w xFr.rf hg) hk (xs_s hg) rc (by decide)
theorem xUW.add {S S1 : xT} {g gb g1 : xG} {bn a : Nat} {Lb : List (Nat × Nat)} {nu nb b p c cp ho td cs : Int} {U B : Int → Nat} {Y : Nat → Int → Int} (h : xUW S g bn nu nb U B Y) (hn0 : 0 ≤ nu) (hb : xM Lb S g gb) (hLb : (100, 1) ∉ Lb ∧ (10203, 0) ∉ Lb) (hfr : xFr 2 S g g1 a) (hle : xLe S S1) (hlv : xLv S1 g1 bn 100 10203 (nu + 1)) (hel : (∀ k : Int, 0 ≤ k → k < nu → xel g1 bn k = xel gb bn k) ∧ xel g1 bn nu = a) (hs : S1 a = some (2, 0)) (hn : ∀ k : Int, 0 ≤ k → k < nu → U k ≠ a) (e0 : g1 a 0 = .ref (B b)) (rb : 0 ≤ b ∧ b < nb) (e1 : g1 a 1 = .int (iI p)) (e2 : g1 a 2 = .int (iI c)) (e3 : g1 a 3 = .int (iI cp)) (e4 : g1 a 4 = .int (iI ho)) (e5 : g1 a 5 = .int (iI td)) (e6 : g1 a 6 = .int (iI ((4 * td + p) * 10 + c))) (e7 : g1 a 7 = .int (iI cs)) (e8 : g1 a 8 = .int (iI 0)) (e9 : g1 a 9 = .int (iI 0)) (e10 : g1 a 10 = .int (iI 0)) (rp : 0 ≤ p ∧ p ≤ 3) (rc : 0 ≤ c ∧ c ≤ 9) (rcp : 1 ≤ cp ∧ cp ≤ 1000) (rho : 4 ≤ ho ∧ ho ≤ 20) (rtd : 0 ≤ td ∧ td ≤ 399) (rcs : -2147483648 ≤ cs ∧ cs ≤ 2147483647) : xUW S1 g1 bn (nu + 1) nb (fun k => if k = nu then a else U k) B (xyn Y nu b p c cp ho td cs) := by
  refine ⟨hlv, fun k q1 q2 => ?_, fun j k j1 j2 k1 k2 e => ?_⟩
  · by_cases ek : k = nu
    · subst ek
      show xel g1 bn k = (if k = k then a else U k) ∧ S1 (if k = k then a else U k) = _ ∧ g1 (if k = k then a else U k) 0 = _ ∧ _ ∧ (∀ f : Nat, 1 ≤ f → f ≤ 10 → g1 (if k = k then a else U k) f = _ ∧ _ ∧ _) ∧ _
      rw [if_pos rfl]
      have y : ∀ f : Nat, xyn Y k b p c cp ho td cs f k = (if f = 0 then b else if f = 1 then p else if f = 2 then c else if f = 3 then cp else if f = 4 then ho else if f = 5 then td else if f = 6 then (4 * td + p) * 10 + c else if f = 7 then cs else 0) := fun f => if_pos rfl
      refine ⟨hel.2, hs, by rw [y 0]; exact e0, by rw [y 0]; exact rb, fun f f1 f2 => ?_, ?_⟩
      · rw [y f]
        rcases (show f = 1 ∨ f = 2 ∨ f = 3 ∨ f = 4 ∨ f = 5 ∨ f = 6 ∨ f = 7 ∨ f = 8 ∨ f = 9 ∨ f = 10 by omega) with w | w | w | w | w | w | w | w | w | w <;> subst w
        · exact ⟨e1, by show -2147483648 ≤ p ∧ p ≤ 2147483647; omega⟩
        · exact ⟨e2, by show -2147483648 ≤ c ∧ c ≤ 2147483647; omega⟩
        · exact ⟨e3, by show -2147483648 ≤ cp ∧ cp ≤ 2147483647; omega⟩
        · exact ⟨e4, by show -2147483648 ≤ ho ∧ ho ≤ 2147483647; omega⟩
        · exact ⟨e5, by show -2147483648 ≤ td ∧ td ≤ 2147483647; omega⟩
        · exact ⟨e6, by show -2147483648 ≤ (4 * td + p) * 10 + c ∧ (4 * td + p) * 10 + c ≤ 2147483647; omega⟩
        · exact ⟨e7, rcs⟩
        · exact ⟨e8, by show -2147483648 ≤ (0 : Int) ∧ (0 : Int) ≤ 2147483647; decide⟩
        · exact ⟨e9, by show -2147483648 ≤ (0 : Int) ∧ (0 : Int) ≤ 2147483647; decide⟩
        · exact ⟨e10, by show -2147483648 ≤ (0 : Int) ∧ (0 : Int) ≤ 2147483647; decide⟩
      · unfold xUr
        rw [y 1, y 2, y 3, y 4, y 5, y 6]
        exact ⟨rp, rc, rcp, rho, rtd, rfl⟩
    · show xel g1 bn k = (if k = nu then a else U k) ∧ S1 (if k = nu then a else U k) = _ ∧ g1 (if k = nu then a else U k) 0 = _ ∧ _ ∧ (∀ f : Nat, 1 ≤ f → f ≤ 10 → g1 (if k = nu then a else U k) f = _ ∧ _ ∧ _) ∧ _
      rw [if_neg ek]
      have q3 : k < nu := by omega
      obtain ⟨a1, a2, a3, a4, a5, a6⟩ := h.2.1 k q1 q3
      have fr : ∀ f : Nat, g1 (U k) f = g (U k) f := fun f => hfr (U k) 0 f a2 (hn k q1 q3)
      refine ⟨?_, hle _ _ a2, by rw [fr 0, xyn.o ek]; exact a3, by rw [xyn.o ek]; exact a4, fun f f1 f2 => by rw [fr f, xyn.o ek]; exact a5 f f1 f2, ?_⟩
      · rw [hel.1 k q1 q3, h.1.el hb (by decide) (by decide) hLb.1 hLb.2 ⟨q1, q3⟩]; exact a1
      · unfold xUr
        rw [xyn.o ek, xyn.o ek, xyn.o ek, xyn.o ek, xyn.o ek, xyn.o ek]
        exact a6
  · have e' : (if j = nu then a else U j) = (if k = nu then a else U k) := e
    by_cases ej : j = nu
    · by_cases ek : k = nu
      · omega
      · rw [if_pos ej, if_neg ek] at e'
        exact absurd e'.symm (hn k k1 (by omega))
    · by_cases ek : k = nu
      · rw [if_neg ej, if_pos ek] at e'
        exact absurd e' (hn j j1 (by omega))
      · rw [if_neg ej, if_neg ek] at e'
        exact h.2.2 j k j1 (by omega) k1 (by omega) e'
def xBv (td nu nb b p c cp ho : Int) : Prop := td < 400 ∧ nu < 200 ∧ (0 ≤ b ∧ b < nb) ∧ (0 ≤ p ∧ p ≤ 3) ∧ (0 ≤ c ∧ c ≤ 9) ∧ (1 ≤ cp ∧ cp ≤ 1000) ∧ (4 ≤ ho ∧ ho ≤ 20)
def xcs9 (T : List xL3) (FF : Int → Int) (cp : Int) : Int := (cp * xts9 T FF 0 + 99) / 100
def xbd9 (T : List xL3) (FF : Int → Int) (cp cn : Int) : Prop := xts9 T FF 3 < cp ∨ xwp (cn - xcs9 T FF cp) < - xts9 T FF 5
def xBd (tn : Int) (fr : Int → Int) (TT : Int → List xL3) (FF : Int → Int) (td nu nb b p c cp ho : Int) (Y YB : Nat → Int → Int) (r nu1 : Int) (Y1 YB1 : Nat → Int → Int) : Prop := (¬ xBv td nu nb b p c cp ho ∧ r = -1 ∧ nu1 = nu ∧ Y1 = Y ∧ YB1 = YB) ∨ (xBv td nu nb b p c cp ho ∧ ∃ t : Int, xTf tn fr td t ∧ ((xbd9 (xTt9 TT t) FF cp (YB 5 b) ∧ r = -1 ∧ nu1 = nu ∧ Y1 = Y ∧ YB1 = YB) ∨ (¬ xbd9 (xTt9 TT t) FF cp (YB 5 b) ∧ r = nu ∧ nu1 = nu + 1 ∧ Y1 = xyn Y nu b p c cp ho td (xcs9 (xTt9 TT t) FF cp) ∧ YB1 = xyu YB 5 b (xwp (YB 5 b - xcs9 (xTt9 TT t) FF cp)))))
theorem xBd.det {tn : Int} {fr : Int → Int} {TT : Int → List xL3} {FF : Int → Int} {td nu nb b p c cp ho : Int} {Y YB : Nat → Int → Int} {r nu1 r' nu1' : Int} {Y1 YB1 Y1' YB1' : Nat → Int → Int} (h : xBd tn fr TT FF td nu nb b p c cp ho Y YB r nu1 Y1 YB1) (h' : xBd tn fr TT FF td nu nb b p c cp ho Y YB r' nu1' Y1' YB1') : r = r' ∧ nu1 = nu1' ∧ Y1 = Y1' ∧ YB1 = YB1' := by
  rcases h with ⟨v, a1, a2, a3, a4⟩ | ⟨v, t, ht, a⟩
  · rcases h' with ⟨v', b1, b2, b3, b4⟩ | ⟨v', t', ht', b⟩
    · exact ⟨by rw [a1, b1], by rw [a2, b2], by rw [a3, b3], by rw [a4, b4]⟩
    · exact absurd v' v
  · rcases h' with ⟨v', b1, b2, b3, b4⟩ | ⟨v', t', ht', b⟩
    · exact absurd v v'
    · have e := ht.det ht'
      subst e
      rcases a with ⟨w, a1, a2, a3, a4⟩ | ⟨w, a1, a2, a3, a4⟩
      · rcases b with ⟨w', b1, b2, b3, b4⟩ | ⟨w', b1, b2, b3, b4⟩
        · exact ⟨by rw [a1, b1], by rw [a2, b2], by rw [a3, b3], by rw [a4, b4]⟩
        · exact absurd w w'
      · rcases b with ⟨w', b1, b2, b3, b4⟩ | ⟨w', b1, b2, b3, b4⟩
        · exact absurd w' w
        · exact ⟨by rw [a1, b1], by rw [a2, b2], by rw [a3, b3], by rw [a4, b4]⟩
set_option maxHeartbeats 4000000 in
set_option maxRecDepth 100000 in
theorem m_hasBundle (l : Launch) (D : va_G) (kA : Nat → ClassId) (b0 : Nat) (t0 : Nat → Nat) (S : xT) (g : xG) (a0 : Nat) (x1 : Int) (w0 : Nat) (n0 : Int) (hs_a0 : S a0 = some (6, 0)) (hx1 : (-2147483648) ≤ x1 ∧ x1 ≤ 2147483647) (ew0 : g a0 2 = .ref w0) (hs_w0 : S w0 = some (100, 0)) (hn0 : 0 ≤ n0 ∧ n0 ≤ 200) (en0 : g w0 2 = .int (iI n0)) (hp0 : xLs S g) : xMt l yX5_hasBundle cX5_hasBundle 2 (some .boolean) 1 0 0 20 D kA b0 t0 [] [.ref a0, .int (iI x1)] S g (fun (r : Option Value) (S1 : xT) (g1 : xG) => S = S1 ∧ g = g1 ∧ ∃ z : Int, r = some (.int (iI z)) ∧ 0 ≤ z ∧ z ≤ 1 ∧ ((z = 1 ↔ 0 ≤ x1 ∧ x1 < n0))) := by
  refine xEnterZ (by decide) (by simp [lg_sl, Value.category]) [(0, .ref a0), (1, .int (iI x1))] rfl ?_
  intro K E hK hret _ _ _
  refine X_iloadn hK (i := 1) 1 kd32_22.2.2.2.1 rfl rfl ?_
  refine X_if_lt hK 19 (by omega) kd32_22.2.2.2.2.1 (by decide) (fun c1 => ?_) (fun c1 => ?_)
  · refine X_iconst hK kd32_23.1 ?_
    exact hret _ _ _ _ _ _ _ kd32_23.2.1 (by omega) (by omega) ⟨rfl, rfl, 0, rfl, (by omega), (by omega), (by omega)⟩ (Nat.le_refl _) (Nat.le_refl _)
  · refine X_iloadn hK (i := 1) 1 kd32_22.2.2.2.2.2.1 rfl rfl ?_
    refine X_aloadn hK (i := 0) 0 kd32_22.2.2.2.2.2.2.1 rfl rfl ?_
    refine X_getK hK fl_X5_25_6 hs_a0 ew0 kd32_22.2.2.2.2.2.2.2.1 ?_
    refine X_callV hK [] [.int (iI x1)] lk_X5_45 (c_size_100 _ _ _ _ _ S g w0 n0 hs_w0 (by omega) en0 hp0) hs_w0 ⟨by decide, rfl⟩ kd32_22.2.2.2.2.2.2.2.2.1 rfl rfl (by simp [Value.category]) (by decide) (by decide) (by decide) (by decide) (fun r2 S4 g3 pr2 qr2 hg3 => ?_)
    obtain ⟨rfl, rfl, z5, rfl, lz5, uz5, k6⟩ := pr2
    refine X_st [.int (iI z5), .int (iI x1)] rfl ?_
    refine X_icmp_ge hK 19 (by omega) (by omega) kd32_22.2.2.2.2.2.2.2.2.2.1 (by decide) (fun c7 => ?_) (fun c7 => ?_)
    · refine X_iconst hK kd32_23.1 ?_
      exact hret _ _ _ _ _ _ _ kd32_23.2.1 (by omega) (by omega) ⟨rfl, rfl, 0, rfl, (by omega), (by omega), (by omega)⟩ (Nat.le_refl _) (Nat.le_refl _)
    · refine X_iconst hK kd32_22.2.2.2.2.2.2.2.2.2.2.1 ?_
      refine X_goto hK 20 kd32_22.2.2.2.2.2.2.2.2.2.2.2 (by decide) ?_
      exact hret _ _ _ _ _ _ _ kd32_23.2.1 (by omega) (by omega) ⟨rfl, rfl, 1, rfl, (by omega), (by omega), (by omega)⟩ (Nat.le_refl _) (Nat.le_refl _)

set_option maxHeartbeats 4000000 in
set_option maxRecDepth 100000 in
theorem m_startSums (l : Launch) (D : va_G) (kA : Nat → ClassId) (b0 : Nat) (t0 : Nat → Nat) (S : xT) (g : xG) (a0 : Nat) (hs_a0 : S a0 = some (6, 0)) : xMt l yX5_startSums cX5_startSums 1 none 0 0 0 0 D kA b0 t0 [(6, 5), (6, 6), (6, 7)] [.ref a0] S g (fun (r : Option Value) (S1 : xT) (g1 : xG) => S = S1 ∧ r = none ∧ (g1 a0 5 = .int (iI (0))) ∧ (g1 a0 6 = .int (iI (0))) ∧ (g1 a0 7 = .int (iI (0)))) := by
  refine xEnterV (by decide) (by simp [lg_sl, Value.category]) [(0, .ref a0)] rfl ?_
  intro K E hK hret _ _ _
  refine X_aloadn hK (i := 0) 0 kd32_37.2.2.2.2.2.2.2.2.2.1 rfl rfl ?_
  refine X_iconst hK kd32_37.2.2.2.2.2.2.2.2.2.2.1 ?_
  refine X_puti hK fl_X5_35_6 hs_a0 (by decide) sl_6_5 (by omega) (by omega) kd32_37.2.2.2.2.2.2.2.2.2.2.2 (fun g1 hg1 => ?_)
  refine X_aloadn hK (i := 0) 0 kd32_38.1 rfl rfl ?_
  refine X_iconst hK kd32_38.2.1 ?_
  refine X_puti hK fl_X5_39_6 hs_a0 (by decide) sl_6_6 (by omega) (by omega) kd32_38.2.2.1 (fun g2 hg2 => ?_)
  refine X_aloadn hK (i := 0) 0 kd32_38.2.2.2.1 rfl rfl ?_
  refine X_iconst hK kd32_38.2.2.2.2.1 ?_
  refine X_puti hK fl_X5_42_6 hs_a0 (by decide) sl_6_7 (by omega) (by omega) kd32_38.2.2.2.2.2.1 (fun g3 hg3 => ?_)
  exact hret _ _ _ _ _ _ kd32_38.2.2.2.2.2.2 ⟨rfl, rfl, (((xs_k hg3 (by decide)).trans ((xs_k hg2 (by decide)).trans (xs_s hg1))).trans (by congr 2 <;> omega)), (((xs_k hg3 (by decide)).trans (xs_s hg2)).trans (by congr 2 <;> omega)), ((xs_s hg3).trans (by congr 2 <;> omega))⟩ (Nat.le_refl _) (Nat.le_refl _)

set_option maxHeartbeats 4000000 in
set_option maxRecDepth 100000 in
theorem m_inForce (l : Launch) (D : va_G) (kA : Nat → ClassId) (b0 : Nat) (t0 : Nat → Nat) (S : xT) (g : xG) (a0 : Nat) (x1 : Int) (tx : Nat) (tn : Int) (et : Nat) (Xt : Int → Nat) (TT : Int → List xL3) (fr : Int → Int) (hs_a0 : S a0 = some (12, 0)) (hx1 : 0 ≤ x1 ∧ x1 ≤ 399) (etx : g a0 4 = .ref tx) (hs_tx : S tx = some (300, 0)) (htn : 0 ≤ tn ∧ tn ≤ 10) (etn : g tx 2 = .int (iI tn)) (eet : g a0 5 = .ref et) (hs_et : S et = some (11, 0)) (hp0 : xLs S g) (hp1 : xXW S g tx tn Xt TT fr) (hp2 : xET S g et) : xMt l yX11_inForce cX11_inForce 5 (some (.object "PaperBoys$Terms")) 3 0 0 64 D kA b0 t0 [] [.ref a0, .int (iI x1)] S g (fun (r : Option Value) (S1 : xT) (g1 : xG) => S = S1 ∧ g = g1 ∧ ∃ z : Nat, r = some (.ref z) ∧ S z = some (11, 0) ∧ (∃ t9 : Int, xTf tn fr x1 t9 ∧ xOT S g z (xTt9 TT t9))) := by
  refine xEnterA (Or.inl ⟨_, rfl⟩) (by decide) (by simp [lg_sl, Value.category]) [(0, .ref a0), (1, .int (iI x1))] rfl ?_
  intro K E hK hret _ _ _
  refine X_aloadn hK (i := 0) 0 kd42_24.2.2.2.2.2.2.2.2.2.1 rfl rfl ?_
  refine X_getK hK fl_X11_45_12 hs_a0 eet kd42_24.2.2.2.2.2.2.2.2.2.2.1 ?_
  refine X_astoren hK (i := 2) [(2, .ref et), (0, .ref a0), (1, .int (iI x1))] kd42_24.2.2.2.2.2.2.2.2.2.2.2 rfl (by decide) rfl ?_
  refine X_iconst hK kd42_25.1 ?_
  refine X_istoren hK (i := 3) [(3, .int (iI 0)), (2, .ref et), (0, .ref a0), (1, .int (iI x1))] kd42_25.2.1 rfl (by decide) rfl ?_
  have P69 : ∀ (nP69 : Nat) (z52 : Int) (_ : 0 ≤ z52) (_ : z52 ≤ 10) (b53 : Nat) (_ : S b53 = some (11, 0)) (_ : ∃ t9 : Int, xTf z52 fr x1 t9 ∧ b53 = if t9 = -1 then et else Xt t9) (_ : z52 ≤ tn) (_ : 20 - z52 < (nP69 : Int)), X K E 7 [(3, .int (iI z52)), (2, .ref b53), (0, .ref a0), (1, .int (iI x1))] [] S g 0 0 := by
    intro nP69
    induction nP69 with
    | zero => intro z52 lz52 uz52 b53 hs_b53 v70 v71 mP69; exact False.elim (by omega)
    | succ nP69 ihP69 =>
      intro z52 lz52 uz52 b53 hs_b53 v70 v71 mP69
      refine X_iloadn hK (i := 3) 0 kd42_25.2.2.1 rfl rfl ?_
      obtain ⟨t72, h1t72, h2t72⟩ := id v70
      obtain ⟨ot72, et72, rt72⟩ := xXW.at hp1 hp2 (by omega) h1t72 h2t72
      refine X_aloadn hK (i := 0) 2 kd42_25.2.2.2.1 rfl rfl ?_
      refine X_getK hK fl_X11_38_12 hs_a0 etx kd42_25.2.2.2.2.1 ?_
      refine X_callV hK [] [.int (iI z52)] lk_X11_112 (c_size_300 _ _ _ _ _ S g tx tn hs_tx (by omega) etn hp0) hs_tx ⟨by decide, rfl⟩ kd42_25.2.2.2.2.2.1 rfl rfl (by simp [Value.category]) (by decide) (by decide) (by decide) (by decide) (fun r73 S75 g74 pr73 qr73 hg74 => ?_)
      obtain ⟨rfl, rfl, z76, rfl, lz76, uz76, k77⟩ := pr73
      refine X_st [.int (iI z76), .int (iI z52)] rfl ?_
      refine X_icmp_ge hK 61 (by omega) (by omega) kd42_25.2.2.2.2.2.2.1 (by decide) (fun c78 => ?_) (fun c78 => ?_)
      · refine X_aloadn hK (i := 2) 1 kd42_27.2.2.1 rfl rfl ?_
        exact hret _ _ _ _ _ _ _ kd42_27.2.2.2.1 (Or.inr ⟨_, rfl⟩) ⟨rfl, rfl, b53, rfl, hs_b53, (by obtain ⟨t9, h1, h2⟩ := v70; rw [show z52 = tn by omega] at h1; exact ⟨t9, h1, (xXW.at hp1 hp2 (Int.le_refl _) h1 h2).1⟩)⟩ (Nat.le_refl _) (Nat.le_refl _)
      · refine X_aloadn hK (i := 0) 2 kd42_25.2.2.2.2.2.2.2.1 rfl rfl ?_
        refine X_getK hK fl_X11_38_12 hs_a0 etx kd42_25.2.2.2.2.2.2.2.2.1 ?_
        refine X_iloadn hK (i := 3) 0 kd42_25.2.2.2.2.2.2.2.2.2.1 rfl rfl ?_
        refine X_callV hK [.int (iI z52)] [] lk_X11_135 (c_get_300 _ _ _ _ _ S g tx z52 tn hs_tx (by omega) (by omega) etn hp0 (by omega)) hs_tx ⟨by decide, rfl⟩ kd42_25.2.2.2.2.2.2.2.2.2.2.1 rfl rfl (by simp [Value.category]) (by decide) (by decide) (by decide) (by decide) (fun r79 S81 g80 pr79 qr79 hg80 => ?_)
        obtain ⟨rfl, rfl, b82, rfl, hs_b82, k83⟩ := pr79
        refine X_st [.ref b82] rfl ?_
        obtain ⟨ahx84, bhx84, chx84, dhx84⟩ := hp1.2 z52 (by omega) (by omega)
        have hx84 : b82 = Xt z52 := k83.trans ahx84
        refine X_cast hK hs_b82 ⟨by decide, rfl⟩ m_2_7 kd42_25.2.2.2.2.2.2.2.2.2.2.2 ?_
        refine X_astore hK (i := 4) [(4, .ref b82), (3, .int (iI z52)), (2, .ref b53), (0, .ref a0), (1, .int (iI x1))] kd42_26.1 (by decide) rfl ?_
        refine X_aload hK (i := 4) 0 kd42_26.2.1 rfl ?_
        refine X_getK hK fl_X11_356_11 hs_b82 (show g b82 0 = .int (iI (fr z52)) from by rw [hx84]; exact chx84) kd42_26.2.2.1 ?_
        refine X_iloadn hK (i := 1) 4 kd42_26.2.2.2.1 rfl rfl ?_
        refine X_icmp_gt hK 55 (by omega) (by omega) kd42_26.2.2.2.2.1 (by decide) (fun c85 => ?_) (fun c85 => ?_)
        · refine X_iinc hK (i := 3) (z := z52) (n := 1) 1 [(3, .int (iI (z52 + 1))), (4, .ref b82), (2, .ref b53), (0, .ref a0), (1, .int (iI x1))] kd42_27.1 rfl (by decide) rfl ?_
          refine X_goto hK 7 kd42_27.2.1 (by decide) ?_
          refine X_lv [(3, .int (iI (z52 + 1))), (2, .ref b53), (0, .ref a0), (1, .int (iI x1))] [0, 2, 3, 4] rfl ?_
          exact ihP69  (z52 + 1) (by omega) (by omega) b53 hs_b53 ⟨t72, (by first | exact xTf.no h1t72 (by omega) | (refine xTf.lt h1t72 (fun q9 => ?_) ?_; (unfold xft9 at *; rw [if_pos q9] at *; omega); (have h9 := h1t72; rcases h9 with h9 | h9; (exfalso; have q9 := h9.1; unfold xft9 at *; rw [if_pos q9] at *; omega); (unfold xft9 at *; rw [if_neg (by omega)] at *; omega)))), h2t72⟩ (by omega) (by omega)
        · refine X_aload hK (i := 4) 0 kd42_26.2.2.2.2.2.1 rfl ?_
          refine X_getK hK fl_X11_356_11 hs_b82 (show g b82 0 = .int (iI (fr z52)) from by rw [hx84]; exact chx84) kd42_26.2.2.2.2.2.2.1 ?_
          refine X_aloadn hK (i := 2) 2 kd42_26.2.2.2.2.2.2.2.1 rfl rfl ?_
          refine X_getK hK fl_X11_356_11 hs_b53 et72 kd42_26.2.2.2.2.2.2.2.2.1 ?_
          refine X_icmp_lt hK 55 (by omega) (by omega) kd42_26.2.2.2.2.2.2.2.2.2.1 (by decide) (fun c86 => ?_) (fun c86 => ?_)
          · refine X_iinc hK (i := 3) (z := z52) (n := 1) 1 [(3, .int (iI (z52 + 1))), (4, .ref b82), (2, .ref b53), (0, .ref a0), (1, .int (iI x1))] kd42_27.1 rfl (by decide) rfl ?_
            refine X_goto hK 7 kd42_27.2.1 (by decide) ?_
            refine X_lv [(3, .int (iI (z52 + 1))), (2, .ref b53), (0, .ref a0), (1, .int (iI x1))] [0, 2, 3, 4] rfl ?_
            exact ihP69  (z52 + 1) (by omega) (by omega) b53 hs_b53 ⟨t72, (by first | exact xTf.no h1t72 (by omega) | (refine xTf.lt h1t72 (fun q9 => ?_) ?_; (unfold xft9 at *; rw [if_pos q9] at *; omega); (have h9 := h1t72; rcases h9 with h9 | h9; (exfalso; have q9 := h9.1; unfold xft9 at *; rw [if_pos q9] at *; omega); (unfold xft9 at *; rw [if_neg (by omega)] at *; omega)))), h2t72⟩ (by omega) (by omega)
          · refine X_aload hK (i := 4) 0 kd42_26.2.2.2.2.2.2.2.2.2.2.1 rfl ?_
            refine X_astoren hK (i := 2) [(2, .ref b82), (4, .ref b82), (3, .int (iI z52)), (0, .ref a0), (1, .int (iI x1))] kd42_26.2.2.2.2.2.2.2.2.2.2.2 rfl (by decide) rfl ?_
            refine X_iinc hK (i := 3) (z := z52) (n := 1) 2 [(3, .int (iI (z52 + 1))), (2, .ref b82), (4, .ref b82), (0, .ref a0), (1, .int (iI x1))] kd42_27.1 rfl (by decide) rfl ?_
            refine X_goto hK 7 kd42_27.2.1 (by decide) ?_
            refine X_lv [(3, .int (iI (z52 + 1))), (2, .ref b82), (0, .ref a0), (1, .int (iI x1))] [0, 1, 3, 4] rfl ?_
            exact ihP69  (z52 + 1) (by omega) (by omega) b82 hs_b82 ⟨z52, xTf.take h1t72 (by omega) (by omega) (by have h9 := h1t72; unfold xft9 at *; rcases h9 with h9 | h9; exact Or.inl h9.1; (right; rw [if_neg (by omega)] at *; omega)), by rw [if_neg (by omega)]; exact hx84⟩ (by omega) (by omega)
  exact P69 ((20 - 0 : Int).toNat + 1) 0 (by omega) (by omega) et hs_et ⟨-1, xTf.z, (if_pos rfl).symm⟩ (by omega) (by omega)

set_option maxHeartbeats 4000000 in
set_option maxRecDepth 100000 in
theorem m_told (l : Launch) (D : va_G) (kA : Nat → ClassId) (b0 : Nat) (t0 : Nat → Nat) (S : xT) (g : xG) (a0 : Nat) (x1 : Int) (x2 : Int) (m0 : Nat) (bn : Nat) (bo : Nat) (w3 : Nat) (ct : Nat) (ow : Nat) (sk : Nat) (fa : Nat) (nu : Int) (nb : Int) (tx : Nat) (tn : Int) (et : Nat) (U : Int → Nat) (B : Int → Nat) (Y : Nat → Int → Int) (YB : Nat → Int → Int) (Xt : Int → Nat) (TT : Int → List xL3) (fr : Int → Int) (hs_a0 : S a0 = some (12, 0)) (hx1 : (-2147483648) ≤ x1 ∧ x1 ≤ 2147483647) (hx2 : (-2147483648) ≤ x2 ∧ x2 ≤ 2147483647) (em0 : g a0 1 = .ref m0) (hs_m0 : S m0 = some (6, 0)) (ebn : g m0 2 = .ref bn) (hs_bn : S bn = some (100, 0)) (ebo : g m0 1 = .ref bo) (hs_bo : S bo = some (0, 0)) (ew3 : g m0 3 = .ref w3) (hs_w3 : S w3 = some (200, 0)) (ect : g m0 0 = .ref ct) (hs_ct : S ct = some (4, 0)) (eow : g ct 5 = .ref ow) (hs_ow : S ow = some (11400, 10)) (esk : g ct 0 = .ref sk) (hs_sk : S sk = some (10700, 400)) (efa : g m0 4 = .ref fa) (hs_fa : S fa = some (12000, 12)) (hnu : 0 ≤ nu ∧ nu ≤ 200) (enu : g bn 2 = .int (iI nu)) (hnb : 0 ≤ nb ∧ nb ≤ 40) (enb : g bo 2 = .int (iI nb)) (etx : g a0 4 = .ref tx) (hs_tx : S tx = some (300, 0)) (htn : 0 ≤ tn ∧ tn ≤ 10) (etn : g tx 2 = .int (iI tn)) (eet : g a0 5 = .ref et) (hs_et : S et = some (11, 0)) (hp0 : xLs S g) (hp1 : xUW S g bn nu nb U B Y) (hp2 : xBW S g bo nb B YB) (hp3 : xXW S g tx tn Xt TT fr) (hp4 : xET S g et) : xMt l yX11_told cX11_told 5 (some .int) 4 0 0 88 D kA b0 t0 [(12, 14), (12000, 0)] [.ref a0, .int (iI x1), .int (iI x2)] S g (fun (r : Option Value) (S1 : xT) (g1 : xG) => S = S1 ∧ ∃ z : Int, r = some (.int (iI z)) ∧ (-1) ≤ z ∧ z ≤ 1000 ∧ ((0 ≤ x1 ∧ x1 < nu ∧ 0 ≤ x2 ∧ x2 ≤ 5 ∧ ∃ t9 : Int, xTf tn fr (Y 5 x1) t9 ∧ z = xts9 (xTt9 TT t9) ((xF9 YB Y (xv g ow) (xv g sk)) x1) x2) ∨ (¬ (0 ≤ x1 ∧ x1 < nu ∧ 0 ≤ x2 ∧ x2 ≤ 5) ∧ z = -1))) := by
  refine xEnterI (by decide) (by simp [lg_sl, Value.category]) [(0, .ref a0), (1, .int (iI x1)), (2, .int (iI x2))] rfl ?_
  intro K E hK hret _ _ _
  refine X_aloadn hK (i := 0) 0 kd42_49.2.2.2.2.2.2.2.2.2.1 rfl rfl ?_
  refine X_iconst hK kd42_49.2.2.2.2.2.2.2.2.2.2.1 ?_
  refine X_puti hK fl_X11_90_12 hs_a0 (by decide) sl_12_14 (by omega) (by omega) kd42_49.2.2.2.2.2.2.2.2.2.2.2 (fun g1 hg1 => ?_)
  refine X_aloadn hK (i := 0) 0 kd42_50.1 rfl rfl ?_
  refine X_getK hK fl_X11_19_12 hs_a0 ((xs_k hg1 (by decide)).trans em0) kd42_50.2.1 ?_
  refine X_iloadn hK (i := 1) 1 kd42_50.2.2.1 rfl rfl ?_
  refine X_callV hK [.int (iI x1)] [] lk_X11_221 (m_hasBundle _ _ _ _ _ S g1 m0 x1 bn nu hs_m0 (by omega) ((xs_k hg1 (by decide)).trans ebn) hs_bn (by omega) ((xs_k hg1 (by decide)).trans enu) (xLs_up hp0 hg1 hs_a0 (by decide))) hs_m0 ⟨by decide, rfl⟩ kd42_50.2.2.2.1 rfl rfl (by simp [Value.category]) (by decide) (by decide) (by decide) (by decide) (fun r2 S4 g3 pr2 qr2 hg3 => ?_)
  obtain ⟨rfl, rfl, z5, rfl, lz5, uz5, k6⟩ := pr2
  refine X_st [.int (iI z5)] rfl ?_
  refine X_if_eq hK 25 (by omega) kd42_50.2.2.2.2.1 (by decide) (fun c7 => ?_) (fun c7 => ?_)
  · refine X_iconst hK kd42_50.2.2.2.2.2.2.2.2.2.2.1 ?_
    exact hret _ _ _ _ _ _ _ kd42_50.2.2.2.2.2.2.2.2.2.2.2 ⟨rfl, (-1), rfl, (by omega), (by omega), (Or.inr ⟨(fun q9 => by omega), by omega⟩)⟩ (Nat.le_refl _) (Nat.le_refl _)
  · refine X_iloadn hK (i := 2) 2 kd42_50.2.2.2.2.2.1 rfl rfl ?_
    refine X_iconst hK kd42_50.2.2.2.2.2.2.1 ?_
    refine X_iconst hK kd42_50.2.2.2.2.2.2.2.1 ?_
    refine X_callS hK [.int (iI x2), .int (iI 0), .int (iI 5)] [] lk_X11_115 (c_X11_within _ _ _ _ _ S g1 x2 0 5 (by omega) (by omega) (by omega)) kd42_50.2.2.2.2.2.2.2.2.1 rfl rfl (by simp [Value.category]) (by decide) (by decide) (by decide) (by decide) (fun r8 S10 g9 pr8 qr8 hg9 => ?_)
    obtain ⟨rfl, rfl, z11, rfl, lz11, uz11, k12⟩ := pr8
    refine X_st [.int (iI z11)] rfl ?_
    refine X_if_ne hK 27 (by omega) kd42_50.2.2.2.2.2.2.2.2.2.1 (by decide) (fun c13 => ?_) (fun c13 => ?_)
    · refine X_aloadn hK (i := 0) 0 kd42_51.1 rfl rfl ?_
      refine X_getK hK fl_X11_19_12 hs_a0 ((xs_k hg1 (by decide)).trans em0) kd42_51.2.1 ?_
      refine X_getK hK fl_X11_205_6 hs_m0 ((xs_k hg1 (by decide)).trans ebn) kd42_51.2.2.1 ?_
      refine X_iloadn hK (i := 1) 1 kd42_51.2.2.2.1 rfl rfl ?_
      refine X_callV hK [.int (iI x1)] [] lk_X11_135 (c_get_100 _ _ _ _ _ S g1 bn x1 nu hs_bn (by omega) (by omega) ((xs_k hg1 (by decide)).trans enu) (xLs_up hp0 hg1 hs_a0 (by decide)) (by omega)) hs_bn ⟨by decide, rfl⟩ kd42_51.2.2.2.2.1 rfl rfl (by simp [Value.category]) (by decide) (by decide) (by decide) (by decide) (fun r14 S16 g15 pr14 qr14 hg15 => ?_)
      obtain ⟨rfl, rfl, b17, rfl, hs_b17, k18⟩ := pr14
      refine X_st [.ref b17] rfl ?_
      have wuhe19 := (xUW.m hp1 (xM_up (L := [(12, 14)]) xM.rf hg1 hs_a0 (by decide) (by decide)) xLe.rf (by decide))
      have wbhe19 := (xBW.m hp2 (xM_up (L := [(12, 14)]) xM.rf hg1 hs_a0 (by decide) (by decide)) xLe.rf (by decide))
      have he19 : b17 = U x1 := k18.trans (wuhe19.2.1 x1 (by omega) (by omega)).1
      have hbd20 := wuhe19.2.1 x1 (by omega) (by omega)
      obtain ⟨abd20, sbd20, ybd20, zbd20, fbd20, rbd20⟩ := hbd20
      unfold xUr at rbd20
      have kbd20 := wbhe19.2 (Y 0 x1) (by omega) (by omega)
      obtain ⟨kabd20, ksbd20, kfbd20, krbd20⟩ := kbd20
      unfold xBr at krbd20
      refine X_cast hK hs_b17 ⟨by decide, rfl⟩ m_32_22 kd42_51.2.2.2.2.2.1 ?_
      refine X_astoren hK (i := 3) [(3, .ref b17), (0, .ref a0), (1, .int (iI x1)), (2, .int (iI x2))] kd42_51.2.2.2.2.2.2.1 rfl (by decide) rfl ?_
      refine X_aloadn hK (i := 0) 1 kd42_51.2.2.2.2.2.2.2.1 rfl rfl ?_
      refine X_aloadn hK (i := 3) 0 kd42_51.2.2.2.2.2.2.2.2.1 rfl rfl ?_
      refine X_getK hK fl_X11_224_2 hs_b17 (show g1 b17 5 = .int (iI (Y 5 x1)) from by have h9 := (fbd20 5 (by decide) (by decide)).1; rw [he19]; exact h9) kd42_51.2.2.2.2.2.2.2.2.2.1 ?_
      refine X_callV hK [.int (iI (Y 5 x1))] [] lk_X11_213 (m_inForce _ _ _ _ _ S g1 a0 (Y 5 x1) tx tn et Xt TT fr hs_a0 (by omega) ((xs_k hg1 (by decide)).trans etx) hs_tx (by omega) ((xs_k hg1 (by decide)).trans etn) ((xs_k hg1 (by decide)).trans eet) hs_et (xLs_up hp0 hg1 hs_a0 (by decide)) (xXW.m hp3 (xM_up (L := [(12, 14)]) xM.rf hg1 hs_a0 (by decide) (by decide)) xLe.rf (by decide)) (xET.m hp4 (xM_up (L := [(12, 14)]) xM.rf hg1 hs_a0 (by decide) (by decide)) xLe.rf (by decide))) hs_a0 ⟨by decide, rfl⟩ kd42_51.2.2.2.2.2.2.2.2.2.2.1 rfl rfl (by simp [Value.category]) (by decide) (by decide) (by decide) (by decide) (fun r21 S23 g22 pr21 qr21 hg22 => ?_)
      obtain ⟨rfl, rfl, b24, rfl, hs_b24, k25⟩ := pr21
      refine X_st [.ref b24] rfl ?_
      obtain ⟨ttf26, ftf26, otf26⟩ := k25
      obtain ⟨zot27, wkot27, wnot27, wfot27, wbot27, wsot27, lnot27, e1ot27, r1ot27, e3ot27, s3ot27, e4ot27, s4ot27, e5ot27, s5ot27, e6ot27, s6ot27, e7ot27, s7ot27, xot27⟩ := otf26
      refine X_astore hK (i := 4) [(4, .ref b24), (3, .ref b17), (0, .ref a0), (1, .int (iI x1)), (2, .int (iI x2))] kd42_51.2.2.2.2.2.2.2.2.2.2.2 (by decide) rfl ?_
      refine X_aloadn hK (i := 0) 2 kd42_52.1 rfl rfl ?_
      refine X_getK hK fl_X11_19_12 hs_a0 ((xs_k hg1 (by decide)).trans em0) kd42_52.2.1 ?_
      refine X_aloadn hK (i := 3) 1 kd42_52.2.2.1 rfl rfl ?_
      refine X_callV hK [.ref b17] [] lk_X11_227 (m_learn _ _ _ _ _ S g1 m0 b17 ct ow sk fa (B (Y 0 x1)) (Y 0 x1) (YB 1 (Y 0 x1)) (YB 2 (Y 0 x1)) (YB 3 (Y 0 x1)) (YB 4 (Y 0 x1)) (Y 1 x1) (Y 2 x1) (Y 3 x1) (Y 4 x1) (Y 5 x1) hs_m0 hs_b17 ((xs_k hg1 (by decide)).trans ect) hs_ct ((xs_k hg1 (by decide)).trans eow) hs_ow ((xs_k hg1 (by decide)).trans esk) hs_sk ((xs_k hg1 (by decide)).trans efa) hs_fa (show g1 b17 0 = .ref (B (Y 0 x1)) from by rw [he19]; exact ybd20) ksbd20 (by omega) (show g1 (B (Y 0 x1)) 0 = .int (iI (Y 0 x1)) from by have h9 := kfbd20 0 (by decide); rw [krbd20.1] at h9; exact h9) (by omega) (show g1 (B (Y 0 x1)) 1 = .int (iI (YB 1 (Y 0 x1))) from by have h9 := kfbd20 1 (by decide); exact h9) (by omega) (show g1 (B (Y 0 x1)) 2 = .int (iI (YB 2 (Y 0 x1))) from by have h9 := kfbd20 2 (by decide); exact h9) (by omega) (show g1 (B (Y 0 x1)) 3 = .int (iI (YB 3 (Y 0 x1))) from by have h9 := kfbd20 3 (by decide); exact h9) (by omega) (show g1 (B (Y 0 x1)) 4 = .int (iI (YB 4 (Y 0 x1))) from by have h9 := kfbd20 4 (by decide); exact h9) (by omega) (show g1 b17 1 = .int (iI (Y 1 x1)) from by have h9 := (fbd20 1 (by decide) (by decide)).1; rw [he19]; exact h9) (by omega) (show g1 b17 2 = .int (iI (Y 2 x1)) from by have h9 := (fbd20 2 (by decide) (by decide)).1; rw [he19]; exact h9) (by omega) (show g1 b17 3 = .int (iI (Y 3 x1)) from by have h9 := (fbd20 3 (by decide) (by decide)).1; rw [he19]; exact h9) (by omega) (show g1 b17 4 = .int (iI (Y 4 x1)) from by have h9 := (fbd20 4 (by decide) (by decide)).1; rw [he19]; exact h9) (by omega) (show g1 b17 5 = .int (iI (Y 5 x1)) from by have h9 := (fbd20 5 (by decide) (by decide)).1; rw [he19]; exact h9)) hs_m0 ⟨by decide, rfl⟩ kd42_52.2.2.2.1 rfl rfl (by simp [Value.category]) (by decide) (by decide) (by decide) (by decide) (fun r28 S30 g29 pr28 qr28 hg29 => ?_)
      obtain ⟨rfl, rfl, k31⟩ := pr28
      refine X_st [] rfl ?_
      have le32 : xFa (xv g29 fa) ((xF9 YB Y (xv g ow) (xv g sk)) x1) := (by have h9 := k31; rw [(xv_a hg1 (xne hs_ow hs_a0 (by decide))), (xv_a hg1 (xne hs_sk hs_a0 (by decide)))] at h9; exact h9)
      refine X_aloadn hK (i := 0) 2 kd42_52.2.2.2.2.1 rfl rfl ?_
      refine X_aload hK (i := 4) 0 kd42_52.2.2.2.2.2.1 rfl ?_
      refine X_iloadn hK (i := 2) 4 kd42_52.2.2.2.2.2.2.1 rfl rfl ?_
      refine X_aloadn hK (i := 0) 2 kd42_52.2.2.2.2.2.2.2.1 rfl rfl ?_
      refine X_getK hK fl_X11_19_12 hs_a0 ((hg29 a0 12 0 1 hs_a0 (by decide)).trans ((xs_k hg1 (by decide)).trans em0)) kd42_52.2.2.2.2.2.2.2.2.1 ?_
      refine X_getK hK fl_X11_231_6 hs_m0 ((hg29 m0 6 0 4 hs_m0 (by decide)).trans ((xs_k hg1 (by decide)).trans efa)) kd42_52.2.2.2.2.2.2.2.2.2.1 ?_
      refine X_callV hK [.int (iI x2), .ref fa] [.ref a0] lk_X11_234 (m_lineFor _ _ _ _ _ S g29 b24 x2 fa lnot27 wkot27 wnot27 wfot27 wbot27 wsot27 ((xF9 YB Y (xv g ow) (xv g sk)) x1) (xTt9 TT ttf26) hs_b24 (by omega) hs_fa (by omega) ((hg29 b24 11 0 1 hs_b24 (by decide)).trans e1ot27) ((hg29 b24 11 0 3 hs_b24 (by decide)).trans e3ot27) s3ot27 ((hg29 b24 11 0 4 hs_b24 (by decide)).trans e4ot27) s4ot27 ((hg29 b24 11 0 5 hs_b24 (by decide)).trans e5ot27) s5ot27 ((hg29 b24 11 0 6 hs_b24 (by decide)).trans e6ot27) s6ot27 ((hg29 b24 11 0 7 hs_b24 (by decide)).trans e7ot27) s7ot27 le32 (by rw [(xv_m hg29 s3ot27 (by decide) (by decide)), (xv_m hg29 s4ot27 (by decide) (by decide)), (xv_m hg29 s5ot27 (by decide) (by decide)), (xv_m hg29 s6ot27 (by decide) (by decide)), (xv_m hg29 s7ot27 (by decide) (by decide))]; exact xot27)) hs_b24 ⟨by decide, rfl⟩ kd42_52.2.2.2.2.2.2.2.2.2.2.1 rfl rfl (by simp [Value.category]) (by decide) (by decide) (by decide) (by decide) (fun r33 S35 g34 pr33 qr33 hg34 => ?_)
      obtain ⟨rfl, rfl, z36, rfl, lz36, uz36, k37⟩ := pr33
      refine X_st [.int (iI z36), .ref a0] rfl ?_
      have lr38 := xlf9.r (F := (xF9 YB Y (xv g ow) (xv g sk)) x1) (w := x2) (xTt9 TT ttf26) 0 (Int.le_refl _)
      have llr38 := xot27.1
      rw [← k37] at lr38
      refine X_puti hK fl_X11_90_12 hs_a0 (by decide) sl_12_14 (by omega) (by omega) kd42_52.2.2.2.2.2.2.2.2.2.2.2 (fun g39 hg39 => ?_)
      refine X_aload hK (i := 4) 0 kd42_53.1 rfl ?_
      refine X_aloadn hK (i := 0) 2 kd42_53.2.1 rfl rfl ?_
      refine X_getK hK fl_X11_90_12 hs_a0 (xs_s hg39) kd42_53.2.2.1 ?_
      refine X_iloadn hK (i := 2) 4 kd42_53.2.2.2.1 rfl rfl ?_
      refine X_callV hK [.int (iI z36), .int (iI x2)] [] lk_X11_238 (m_numberOf _ _ _ _ _ S g39 b24 z36 x2 lnot27 wkot27 wnot27 wfot27 wbot27 wsot27 (xTt9 TT ttf26) hs_b24 (by omega) (by omega) (by omega) ((xs_k hg39 (by decide)).trans ((hg29 b24 11 0 1 hs_b24 (by decide)).trans e1ot27)) ((xs_k hg39 (by decide)).trans ((hg29 b24 11 0 3 hs_b24 (by decide)).trans e3ot27)) s3ot27 ((xs_k hg39 (by decide)).trans ((hg29 b24 11 0 4 hs_b24 (by decide)).trans e4ot27)) s4ot27 ((xs_k hg39 (by decide)).trans ((hg29 b24 11 0 5 hs_b24 (by decide)).trans e5ot27)) s5ot27 ((xs_k hg39 (by decide)).trans ((hg29 b24 11 0 6 hs_b24 (by decide)).trans e6ot27)) s6ot27 ((xs_k hg39 (by decide)).trans ((hg29 b24 11 0 7 hs_b24 (by decide)).trans e7ot27)) s7ot27 (by rw [(Eq.trans (xv_a hg39 (xne s3ot27 hs_a0 (by decide))) (xv_m hg29 s3ot27 (by decide) (by decide))), (Eq.trans (xv_a hg39 (xne s4ot27 hs_a0 (by decide))) (xv_m hg29 s4ot27 (by decide) (by decide))), (Eq.trans (xv_a hg39 (xne s5ot27 hs_a0 (by decide))) (xv_m hg29 s5ot27 (by decide) (by decide))), (Eq.trans (xv_a hg39 (xne s6ot27 hs_a0 (by decide))) (xv_m hg29 s6ot27 (by decide) (by decide))), (Eq.trans (xv_a hg39 (xne s7ot27 hs_a0 (by decide))) (xv_m hg29 s7ot27 (by decide) (by decide)))]; exact xot27) (by omega)) hs_b24 ⟨by decide, rfl⟩ kd42_53.2.2.2.2.1 rfl rfl (by simp [Value.category]) (by decide) (by decide) (by decide) (by decide) (fun r40 S42 g41 pr40 qr40 hg41 => ?_)
      obtain ⟨rfl, rfl, z43, rfl, lz43, uz43, k44⟩ := pr40
      refine X_st [.int (iI z43)] rfl ?_
      exact hret _ _ _ _ _ _ _ kd42_53.2.2.2.2.2.1 ⟨rfl, z43, rfl, (by omega), (by omega), (Or.inl ⟨by omega, by omega, by omega, by omega, ttf26, ftf26, by unfold xts9; rw [← k37]; exact k44⟩)⟩ (Nat.le_refl _) (Nat.le_refl _)
    · refine X_iconst hK kd42_50.2.2.2.2.2.2.2.2.2.2.1 ?_
      exact hret _ _ _ _ _ _ _ kd42_50.2.2.2.2.2.2.2.2.2.2.2 ⟨rfl, (-1), rfl, (by omega), (by omega), (Or.inr ⟨(fun q9 => by omega), by omega⟩)⟩ (Nat.le_refl _) (Nat.le_refl _)

set_option maxHeartbeats 4000000 in
set_option maxRecDepth 100000 in
theorem m_close (l : Launch) (D : va_G) (kA : Nat → ClassId) (b0 : Nat) (t0 : Nat → Nat) (S : xT) (g : xG) (a0 : Nat) (td : Int) (m0 : Nat) (bn : Nat) (bo : Nat) (w3 : Nat) (ct : Nat) (ow : Nat) (sk : Nat) (fa : Nat) (nu : Int) (nb : Int) (tx : Nat) (tn : Int) (et : Nat) (hg : Nat) (wt : Nat) (ld : Nat) (wg : Nat) (U : Int → Nat) (B : Int → Nat) (Y : Nat → Int → Int) (YB : Nat → Int → Int) (Xt : Int → Nat) (TT : Int → List xL3) (fr : Int → Int) (WN : Int → Int → Int) (HD : Int → Int → Int) (hs_a0 : S a0 = some (12, 0)) (htd : 0 ≤ td ∧ td ≤ 400) (etd : g a0 12 = .int (iI td)) (em0 : g a0 1 = .ref m0) (hs_m0 : S m0 = some (6, 0)) (ebn : g m0 2 = .ref bn) (hs_bn : S bn = some (100, 0)) (ebo : g m0 1 = .ref bo) (hs_bo : S bo = some (0, 0)) (ew3 : g m0 3 = .ref w3) (hs_w3 : S w3 = some (200, 0)) (ect : g m0 0 = .ref ct) (hs_ct : S ct = some (4, 0)) (eow : g ct 5 = .ref ow) (hs_ow : S ow = some (11400, 10)) (esk : g ct 0 = .ref sk) (hs_sk : S sk = some (10700, 400)) (efa : g m0 4 = .ref fa) (hs_fa : S fa = some (12000, 12)) (hnu : 0 ≤ nu ∧ nu ≤ 200) (enu : g bn 2 = .int (iI nu)) (hnb : 0 ≤ nb ∧ nb ≤ 40) (enb : g bo 2 = .int (iI nb)) (etx : g a0 4 = .ref tx) (hs_tx : S tx = some (300, 0)) (htn : 0 ≤ tn ∧ tn ≤ 10) (etn : g tx 2 = .int (iI tn)) (eet : g a0 5 = .ref et) (hs_et : S et = some (11, 0)) (ehg : g ct 1 = .ref hg) (hs_hg : S hg = some (10904, 4)) (ewt : g ct 2 = .ref wt) (hs_wt : S wt = some (11000, 4)) (eld : g ct 3 = .ref ld) (hs_ld : S ld = some (11100, 6)) (ewg : g ct 4 = .ref wg) (hs_wg : S wg = some (11304, 10)) (hp0 : xLs S g) (hp1 : xSi S t0) (hp2 : xUW S g bn nu nb U B Y) (hp3 : xBW S g bo nb B YB) (hp4 : xXW S g tx tn Xt TT fr) (hp5 : xET S g et) (hp6 : xWW S g wg WN) (hp7 : xHW S g hg HD) : xMu l yX11_close cX11_close 1 (some .int) 9 10 962 217 D kA b0 t0 [(6, 5), (6, 6), (6, 7), (200, 0), (200, 2), (10403, 0), (200, 1), (12000, 0), (2, 8), (2, 9), (2, 10), (1, 5), (12, 12)] [.ref a0] S g (fun (r : Option Value) (S1 : xT) (g1 : xG) (dc ds : Nat) => xNw2 S S1 [10403] ∧ ∃ z : Int, r = some (.int (iI z)) ∧ (-2147483648) ≤ z ∧ z ≤ 2147483647 ∧ (xLs S1 g1) ∧ (xSi S1 t0) ∧ (dc ≤ 9 ∧ ds ≤ 718) ∧ (g1 a0 12 = .int (iI (if td < 400 then td + 1 else td))) ∧ ((td = 400 ∧ z = -1 ∧ xUW S1 g1 bn nu nb U B Y ∧ xBW S1 g1 bo nb B YB) ∨ (td < 400 ∧ ∃ (t9 : Int) (s9 : Int → Int) (Y9 YB9 : Nat → Int → Int), xTf tn fr td t9 ∧ xSd nu.toNat (Y 5) (Y 2) (Y 1) (Y 3) (xKY Y YB (xv g ow)) (fun k9 => xts9 (xTt9 TT t9) ((xF9 YB Y (xv g ow) (xv g sk)) k9) 4) (fun c9 p9 => xas (WN c9 p9) (xv g wt (xv g sk td)) (xv g ld (HD p9 td))) td s9 ∧ xCl9 nu.toNat nb (xTt9 TT t9) (xF9 YB Y (xv g ow) (xv g sk)) Y YB td s9 Y9 YB9 ∧ z = xwp (0 + xzm (fun k9 => if Y 5 k9 = td then xwh9 0 (xTt9 TT t9) (xF9 YB Y (xv g ow) (xv g sk)) (Y 3) s9 k9 else 0) nu.toNat) ∧ xUW S1 g1 bn nu nb U B Y9 ∧ xBW S1 g1 bo nb B YB9))) := by
  refine xEnterUI (by decide) (by simp [lg_sl, Value.category]) [(0, .ref a0)] rfl ?_
  intro K E hK hret hS0 _ hini ht
  subst ht
  refine X_aloadn hK (i := 0) 0 kd45_0.1 rfl rfl ?_
  refine X_getK hK fl_X11_83_12 hs_a0 etd kd45_0.2.1 ?_
  refine X_sipush hK kd45_0.2.2.1 (by decide) ?_
  refine X_icmp_lt hK 12 (by omega) (by omega) kd45_0.2.2.2.1 (by decide) (fun c1 => ?_) (fun c1 => ?_)
  · refine X_aloadn hK (i := 0) 0 kd45_0.2.2.2.2.2.2.1 rfl rfl ?_
    refine X_getK hK fl_X11_19_12 hs_a0 em0 kd45_0.2.2.2.2.2.2.2.1 ?_
    refine X_callV hK [] [] lk_X11_242 (m_startSums _ _ _ _ _ S g m0 hs_m0) hs_m0 ⟨by decide, rfl⟩ kd45_0.2.2.2.2.2.2.2.2.1 rfl rfl (by simp [Value.category]) (by decide) (by omega) (by omega) (by decide) (fun r2 S4 g3 pr2 qr2 hg3 => ?_)
    obtain ⟨rfl, rfl, k5, k6, k7⟩ := pr2
    refine X_st [] rfl ?_
    refine X_aloadn hK (i := 0) 0 kd45_0.2.2.2.2.2.2.2.2.2.1 rfl rfl ?_
    refine X_getK hK fl_X11_19_12 hs_a0 ((hg3 a0 12 0 1 hs_a0 (by decide)).trans em0) kd45_0.2.2.2.2.2.2.2.2.2.2.1 ?_
    refine X_aloadn hK (i := 0) 0 kd45_0.2.2.2.2.2.2.2.2.2.2.2 rfl rfl ?_
    refine X_getK hK fl_X11_83_12 hs_a0 ((hg3 a0 12 0 12 hs_a0 (by decide)).trans etd) kd45_1.1 ?_
    refine X_aloadn hK (i := 0) 0 kd45_1.2.1 rfl rfl ?_
    refine X_aloadn hK (i := 0) 0 kd45_1.2.2.1 rfl rfl ?_
    refine X_getK hK fl_X11_83_12 hs_a0 ((hg3 a0 12 0 12 hs_a0 (by decide)).trans etd) kd45_1.2.2.2.1 ?_
    refine X_callV hK [.int (iI td)] [.int (iI td), .ref m0] lk_X11_213 (m_inForce _ _ _ _ _ S g3 a0 td tx tn et Xt TT fr hs_a0 (by omega) ((hg3 a0 12 0 4 hs_a0 (by decide)).trans etx) hs_tx (by omega) ((hg3 tx 300 0 2 hs_tx (by decide)).trans etn) ((hg3 a0 12 0 5 hs_a0 (by decide)).trans eet) hs_et (xLs_mod hp0 hg3 (by decide)) (xXW.m hp4 hg3 xLe.rf (by decide)) (xET.m hp5 hg3 xLe.rf (by decide))) hs_a0 ⟨by decide, rfl⟩ kd45_1.2.2.2.2.1 rfl rfl (by simp [Value.category]) (by decide) (by omega) (by omega) (by decide) (fun r8 S10 g9 pr8 qr8 hg9 => ?_)
    obtain ⟨rfl, rfl, b11, rfl, hs_b11, k12⟩ := pr8
    refine X_st [.ref b11, .int (iI td), .ref m0] rfl ?_
    obtain ⟨ttf13, ftf13, otf13⟩ := k12
    obtain ⟨zot14, wkot14, wnot14, wfot14, wbot14, wsot14, lnot14, e1ot14, r1ot14, e3ot14, s3ot14, e4ot14, s4ot14, e5ot14, s5ot14, e6ot14, s6ot14, e7ot14, s7ot14, xot14⟩ := otf13
    refine X_iconst hK kd45_1.2.2.2.2.2.1 ?_
    refine X_callVU hK [.int (iI td), .ref b11, .int (iI 1)] [] lk_X11_245 (m_cryDay1 _ _ _ _ _ S g3 m0 td b11 1 bn bo w3 ct ow nu nb sk hg wt ld wg fa 0 0 0 lnot14 wkot14 wnot14 wfot14 wbot14 wsot14 0 0 U B Y YB (xTt9 TT ttf13) WN HD hs_m0 (by omega) hs_b11 (by omega) ((hg3 m0 6 0 2 hs_m0 (by decide)).trans ebn) hs_bn ((hg3 m0 6 0 1 hs_m0 (by decide)).trans ebo) hs_bo ((hg3 m0 6 0 3 hs_m0 (by decide)).trans ew3) hs_w3 ((hg3 m0 6 0 0 hs_m0 (by decide)).trans ect) hs_ct ((hg3 ct 4 0 5 hs_ct (by decide)).trans eow) hs_ow (by omega) ((hg3 bn 100 0 2 hs_bn (by decide)).trans enu) (by omega) ((hg3 bo 0 0 2 hs_bo (by decide)).trans enb) ((hg3 ct 4 0 0 hs_ct (by decide)).trans esk) hs_sk ((hg3 ct 4 0 1 hs_ct (by decide)).trans ehg) hs_hg ((hg3 ct 4 0 2 hs_ct (by decide)).trans ewt) hs_wt ((hg3 ct 4 0 3 hs_ct (by decide)).trans eld) hs_ld ((hg3 ct 4 0 4 hs_ct (by decide)).trans ewg) hs_wg ((hg3 m0 6 0 4 hs_m0 (by decide)).trans efa) hs_fa (by omega) k5 (by omega) k6 (by omega) k7 (by omega) e1ot14 e3ot14 s3ot14 e4ot14 s4ot14 e5ot14 s5ot14 e6ot14 s6ot14 e7ot14 s7ot14 (xLs_mod hp0 hg3 (by decide)) hp1 (xQk_0 (xLs_mod hp0 hg3 (by decide)) hs_w3) (xUW.m hp2 hg3 xLe.rf (by decide)) (xBW.m hp3 hg3 xLe.rf (by decide)) xot14 (xWW.m hp6 hg3 xLe.rf (by decide)) (xHW.m hp7 hg3 xLe.rf (by decide))) hs_m0 ⟨by decide, rfl⟩ kd45_1.2.2.2.2.2.2.1 rfl rfl (by simp [Value.category]) (by decide) (by omega) (by omega) (by decide) (fun r15 S17 g16 dcr15 dsr15 pr15 qr15 hg16 => ?_)
    obtain ⟨wr15, rfl, k18, k19, k20, k21, k22⟩ := pr15
    refine X_st [] rfl ?_
    obtain ⟨scd23, Ycd23, YBcd23, hUcd23, hBcd23, sdcd23, clcd23, f5cd23, f6cd23, f7cd23⟩ := k22
    rw [(xv_m hg3 hs_ow (by decide) (by decide)), (xv_m hg3 hs_sk (by decide) (by decide)), (xv_m hg3 hs_wt (by decide) (by decide)), (xv_m hg3 hs_ld (by decide) (by decide))] at sdcd23
    rw [(xv_m hg3 hs_ow (by decide) (by decide)), (xv_m hg3 hs_sk (by decide) (by decide))] at clcd23 f5cd23
    obtain ⟨v24, hv24⟩ : ∃ v9 : Int, v9 = xwp (0 + xzm (fun k9 => if Y 5 k9 = td then xwh9 0 (xTt9 TT ttf13) (xF9 YB Y (xv g ow) (xv g sk)) (Y 3) scd23 k9 else 0) nu.toNat) := ⟨_, rfl⟩
    have rv24 : -2147483648 ≤ v24 ∧ v24 ≤ 2147483647 := by rw [hv24]; exact xwp.r _
    rw [← hv24] at f5cd23
    refine X_aloadn hK (i := 0) 0 kd45_1.2.2.2.2.2.2.2.1 rfl rfl ?_
    refine X_dup hK kd45_1.2.2.2.2.2.2.2.2.1 rfl ?_
    refine X_getK hK fl_X11_83_12 (qr15 _ _ hs_a0) ((hg16 a0 12 0 12 hs_a0 (by decide)).trans ((hg3 a0 12 0 12 hs_a0 (by decide)).trans etd)) kd45_1.2.2.2.2.2.2.2.2.2.1 ?_
    refine X_iconst hK kd45_1.2.2.2.2.2.2.2.2.2.2.1 ?_
    refine X_iadd hK kd45_1.2.2.2.2.2.2.2.2.2.2.2 ?_
    refine X_puti hK fl_X11_83_12 (qr15 _ _ hs_a0) (by decide) sl_12_12 (by omega) (by omega) kd45_2.1 (fun g25 hg25 => ?_)
    refine X_aloadn hK (i := 0) 0 kd45_2.2.1 rfl rfl ?_
    refine X_getK hK fl_X11_19_12 (qr15 _ _ hs_a0) ((xs_k hg25 (by decide)).trans ((hg16 a0 12 0 1 hs_a0 (by decide)).trans ((hg3 a0 12 0 1 hs_a0 (by decide)).trans em0))) kd45_2.2.2.1 ?_
    refine X_getK hK fl_X11_249_6 (qr15 _ _ hs_m0) ((xs_k hg25 (by decide)).trans f5cd23) kd45_2.2.2.2.1 ?_
    exact hret _ _ _ _ _ _ _ kd45_2.2.2.2.2.1 ⟨(xNw2.tr xNw2.rf wr15 (by decide)), v24, rfl, (by omega), (by omega), (xLs_up k18 hg25 (qr15 _ _ hs_a0) (by decide)), k19, (by omega), ((xs_s hg25).trans (by congr 2 <;> omega)), (Or.inr ⟨by omega, ttf13, scd23, Ycd23, YBcd23, ftf13, sdcd23, clcd23, hv24, (xUW.m hUcd23 (xM_up (L := [(12, 12)]) xM.rf hg25 (qr15 _ _ hs_a0) (by decide) (by decide)) xLe.rf (by decide)), (xBW.m hBcd23 (xM_up (L := [(12, 12)]) xM.rf hg25 (qr15 _ _ hs_a0) (by decide) (by decide)) xLe.rf (by decide))⟩)⟩ (by omega) (by omega)
  · refine X_iconst hK kd45_0.2.2.2.2.1 ?_
    exact hret _ _ _ _ _ _ _ kd45_0.2.2.2.2.2.1 ⟨xNw2.rf, (-1), rfl, (by omega), (by omega), hp0, hp1, (by omega), (etd.trans (by congr 2 <;> omega)), (Or.inl ⟨by omega, by omega, hp2, hp3⟩)⟩ (by omega) (by omega)
