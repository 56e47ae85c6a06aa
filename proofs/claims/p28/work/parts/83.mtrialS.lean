
def xCW (S : xT) (g : xG) (x bn bo tx et : Nat) (u b t : Int) (U B Xt : Int → Nat) (Y YB : Nat → Int → Int) (TT : Int → List xL3) (fr : Int → Int) : Prop := xUW S g bn u b U B Y ∧ xBW S g bo b B YB ∧ xXW S g tx t Xt TT fr ∧ xET S g et ∧ xDS S g x Xt t et
theorem xCW.m {S S1 : xT} {g g1 : xG} {x bn bo tx et : Nat} {u b t : Int} {U B Xt : Int → Nat} {Y YB : Nat → Int → Int} {TT : Int → List xL3} {fr : Int → Int} {L : List (Nat × Nat)} (h : xCW S g x bn bo tx et u b t U B Xt Y YB TT fr) (hm : xM L S g g1) (hle : xLe S S1) (hL : ∀ x ∈ [(100, 1), (10203, 0), (2, 0), (2, 1), (2, 2), (2, 3), (2, 4), (2, 5), (2, 6), (2, 7), (2, 8), (2, 9), (2, 10), (0, 1), (10103, 0), (1, 0), (1, 1), (1, 2), (1, 3), (1, 4), (1, 5), (300, 1), (10303, 0), (11, 0), (11, 1), (11, 3), (11, 4), (11, 5), (11, 6), (11, 7), (13600, 0), (13700, 0), (13800, 0), (13900, 0), (14000, 0), (12, 7)], x ∉ L) : xCW S1 g1 x bn bo tx et u b t U B Xt Y YB TT fr :=
  ⟨h.1.m hm hle (fun x hx => hL x ((by decide : ∀ y ∈ [(100, 1), (10203, 0), (2, 0), (2, 1), (2, 2), (2, 3), (2, 4), (2, 5), (2, 6), (2, 7), (2, 8), (2, 9), (2, 10)], y ∈ [(100, 1), (10203, 0), (2, 0), (2, 1), (2, 2), (2, 3), (2, 4), (2, 5), (2, 6), (2, 7), (2, 8), (2, 9), (2, 10), (0, 1), (10103, 0), (1, 0), (1, 1), (1, 2), (1, 3), (1, 4), (1, 5), (300, 1), (10303, 0), (11, 0), (11, 1), (11, 3), (11, 4), (11, 5), (11, 6), (11, 7), (13600, 0), (13700, 0), (13800, 0), (13900, 0), (14000, 0), (12, 7)]) x hx)), h.2.1.m hm hle (fun x hx => hL x ((by decide : ∀ y ∈ [(0, 1), (10103, 0), (1, 0), (1, 1), (1, 2), (1, 3), (1, 4), (1, 5)], y ∈ [(100, 1), (10203, 0), (2, 0), (2, 1), (2, 2), (2, 3), (2, 4), (2, 5), (2, 6), (2, 7), (2, 8), (2, 9), (2, 10), (0, 1), (10103, 0), (1, 0), (1, 1), (1, 2), (1, 3), (1, 4), (1, 5), (300, 1), (10303, 0), (11, 0), (11, 1), (11, 3), (11, 4), (11, 5), (11, 6), (11, 7), (13600, 0), (13700, 0), (13800, 0), (13900, 0), (14000, 0), (12, 7)]) x hx)), h.2.2.1.m hm hle (fun x hx => hL x ((by decide : ∀ y ∈ [(300, 1), (10303, 0), (11, 0), (11, 1), (11, 3), (11, 4), (11, 5), (11, 6), (11, 7), (13600, 0), (13700, 0), (13800, 0), (13900, 0), (14000, 0)], y ∈ [(100, 1), (10203, 0), (2, 0), (2, 1), (2, 2), (2, 3), (2, 4), (2, 5), (2, 6), (2, 7), (2, 8), (2, 9), (2, 10), (0, 1), (10103, 0), (1, 0), (1, 1), (1, 2), (1, 3), (1, 4), (1, 5), (300, 1), (10303, 0), (11, 0), (11, 1), (11, 3), (11, 4), (11, 5), (11, 6), (11, 7), (13600, 0), (13700, 0), (13800, 0), (13900, 0), (14000, 0), (12, 7)]) x hx)), h.2.2.2.1.m hm hle (fun x hx => hL x ((by decide : ∀ y ∈ [(300, 1), (10303, 0), (11, 0), (11, 1), (11, 3), (11, 4), (11, 5), (11, 6), (11, 7), (13600, 0), (13700, 0), (13800, 0), (13900, 0), (14000, 0)], y ∈ [(100, 1), (10203, 0), (2, 0), (2, 1), (2, 2), (2, 3), (2, 4), (2, 5), (2, 6), (2, 7), (2, 8), (2, 9), (2, 10), (0, 1), (10103, 0), (1, 0), (1, 1), (1, 2), (1, 3), (1, 4), (1, 5), (300, 1), (10303, 0), (11, 0), (11, 1), (11, 3), (11, 4), (11, 5), (11, 6), (11, 7), (13600, 0), (13700, 0), (13800, 0), (13900, 0), (14000, 0), (12, 7)]) x hx)), h.2.2.2.2.m hm hle (fun x hx => hL x ((by decide : ∀ y ∈ [(12, 7), (11, 3), (11, 4), (11, 5), (11, 6), (11, 7)], y ∈ [(100, 1), (10203, 0), (2, 0), (2, 1), (2, 2), (2, 3), (2, 4), (2, 5), (2, 6), (2, 7), (2, 8), (2, 9), (2, 10), (0, 1), (10103, 0), (1, 0), (1, 1), (1, 2), (1, 3), (1, 4), (1, 5), (300, 1), (10303, 0), (11, 0), (11, 1), (11, 3), (11, 4), (11, 5), (11, 6), (11, 7), (13600, 0), (13700, 0), (13800, 0), (13900, 0), (14000, 0), (12, 7)]) x hx))⟩
def xRW (S : xT) (g : xG) (wag wbd wfi wsc wbo wpa wco wcp who wdy wcn wcs wso wba wea wo wsr wam wcf wct wp wq wn wfd : Nat) (u b t : Int) (Y YB : Nat → Int → Int) (TT : Int → List xL3) (fr : Int → Int) : Prop := (S wag = some (14200, 40) ∧ S wbd = some (14300, 40) ∧ S wfi = some (14400, 40) ∧ S wsc = some (19301, 40) ∧ S wbo = some (16400, 200) ∧ S wpa = some (16500, 200) ∧ S wco = some (16600, 200) ∧ S wcp = some (16700, 200) ∧ S who = some (16800, 200) ∧ S wdy = some (16900, 200) ∧ S wcn = some (14500, 40) ∧ S wcs = some (17000, 200) ∧ S wso = some (17100, 200) ∧ S wba = some (17200, 200) ∧ S wea = some (17300, 200) ∧ S wo = some (15300, 11) ∧ S wsr = some (15500, 176) ∧ S wam = some (15600, 176) ∧ S wcf = some (15700, 176) ∧ S wct = some (15800, 176) ∧ S wp = some (15900, 1320) ∧ S wq = some (16000, 1320) ∧ S wn = some (16100, 1320) ∧ S wfd = some (15400, 11)) ∧ xRB b (xv g wag) (xv g wbd) (xv g wfi) (xv g wsc) YB ∧ xRU u b (xv g wbo) (xv g wpa) (xv g wco) (xv g wcp) (xv g who) (xv g wdy) Y ∧ xRk b (xv g wcn) YB ∧ xRv u (xv g wcs) (xv g wso) (xv g wba) (xv g wea) Y ∧ xRz b 40 (xv g wcn) ∧ xRz u 200 (xv g wso) ∧ xRz u 200 (xv g wba) ∧ xRz u 200 (xv g wea) ∧ xRT t (xv g wo) (xv g wsr) (xv g wam) (xv g wcf) (xv g wct) (xv g wp) (xv g wq) (xv g wn) TT ∧ xRF t (xv g wfd) fr
theorem xRW.m {S S1 : xT} {g g1 : xG} {wag wbd wfi wsc wbo wpa wco wcp who wdy wcn wcs wso wba wea wo wsr wam wcf wct wp wq wn wfd : Nat} {u b t : Int} {Y YB : Nat → Int → Int} {TT : Int → List xL3} {fr : Int → Int} {L : List (Nat × Nat)} (h : xRW S g wag wbd wfi wsc wbo wpa wco wcp who wdy wcn wcs wso wba wea wo wsr wam wcf wct wp wq wn wfd u b t Y YB TT fr) (hm : xM L S g g1) (hle : xLe S S1) (hL : ∀ x ∈ [(14200, 0), (14300, 0), (14400, 0), (19301, 0), (16400, 0), (16500, 0), (16600, 0), (16700, 0), (16800, 0), (16900, 0), (14500, 0), (17000, 0), (17100, 0), (17200, 0), (17300, 0), (15300, 0), (15500, 0), (15600, 0), (15700, 0), (15800, 0), (15900, 0), (16000, 0), (16100, 0), (15400, 0)], x ∉ L) : xRW S1 g1 wag wbd wfi wsc wbo wpa wco wcp who wdy wcn wcs wso wba wea wo wsr wam wcf wct wp wq wn wfd u b t Y YB TT fr := by
  obtain ⟨⟨swag, swbd, swfi, swsc, swbo, swpa, swco, swcp, swho, swdy, swcn, swcs, swso, swba, swea, swo, swsr, swam, swcf, swct, swp, swq, swn, swfd⟩, hrb9, hru9, hrk9, hrv9, hzc9, hzs9, hzb9, hze9, hrt9, hrf9⟩ := h
  refine ⟨⟨hle _ _ swag, hle _ _ swbd, hle _ _ swfi, hle _ _ swsc, hle _ _ swbo, hle _ _ swpa, hle _ _ swco, hle _ _ swcp, hle _ _ swho, hle _ _ swdy, hle _ _ swcn, hle _ _ swcs, hle _ _ swso, hle _ _ swba, hle _ _ swea, hle _ _ swo, hle _ _ swsr, hle _ _ swam, hle _ _ swcf, hle _ _ swct, hle _ _ swp, hle _ _ swq, hle _ _ swn, hle _ _ swfd⟩, ?_, ?_, ?_, ?_, ?_, ?_, ?_, ?_, ?_, ?_⟩
  · rw [xv_m hm swag (by decide) (hL _ (by decide)), xv_m hm swbd (by decide) (hL _ (by decide)), xv_m hm swfi (by decide) (hL _ (by decide)), xv_m hm swsc (by decide) (hL _ (by decide))]; exact hrb9
  · rw [xv_m hm swbo (by decide) (hL _ (by decide)), xv_m hm swpa (by decide) (hL _ (by decide)), xv_m hm swco (by decide) (hL _ (by decide)), xv_m hm swcp (by decide) (hL _ (by decide)), xv_m hm swho (by decide) (hL _ (by decide)), xv_m hm swdy (by decide) (hL _ (by decide))]; exact hru9
  · rw [xv_m hm swcn (by decide) (hL _ (by decide))]; exact hrk9
  · rw [xv_m hm swcs (by decide) (hL _ (by decide)), xv_m hm swso (by decide) (hL _ (by decide)), xv_m hm swba (by decide) (hL _ (by decide)), xv_m hm swea (by decide) (hL _ (by decide))]; exact hrv9
  · rw [xv_m hm swcn (by decide) (hL _ (by decide))]; exact hzc9
  · rw [xv_m hm swso (by decide) (hL _ (by decide))]; exact hzs9
  · rw [xv_m hm swba (by decide) (hL _ (by decide))]; exact hzb9
  · rw [xv_m hm swea (by decide) (hL _ (by decide))]; exact hze9
  · rw [xv_m hm swo (by decide) (hL _ (by decide)), xv_m hm swsr (by decide) (hL _ (by decide)), xv_m hm swam (by decide) (hL _ (by decide)), xv_m hm swcf (by decide) (hL _ (by decide)), xv_m hm swct (by decide) (hL _ (by decide)), xv_m hm swp (by decide) (hL _ (by decide)), xv_m hm swq (by decide) (hL _ (by decide)), xv_m hm swn (by decide) (hL _ (by decide))]; exact hrt9
  · rw [xv_m hm swfd (by decide) (hL _ (by decide))]; exact hrf9
def xOw (S : xT) (g : xG) (ow wow : Nat) : Prop := S ow = some (11400, 10) ∧ S wow = some (14600, 10) ∧ xTc (xv g ow) (xv g wow) 10
theorem xOw.m {S S1 : xT} {g g1 : xG} {ow wow : Nat} {L : List (Nat × Nat)} (h : xOw S g ow wow) (hm : xM L S g g1) (hle : xLe S S1) (hL : ∀ x ∈ [(11400, 0), (14600, 0)], x ∉ L) : xOw S1 g1 ow wow := by
  obtain ⟨h1, h2, h3⟩ := h
  refine ⟨hle _ _ h1, hle _ _ h2, ?_⟩
  rw [xv_m hm h1 (by decide) (hL _ (by decide)), xv_m hm h2 (by decide) (hL _ (by decide))]
  exact h3
def xHw (S : xT) (g : xG) (hg whd : Nat) : Prop := S hg = some (10904, 4) ∧ S whd = some (14800, 1600) ∧ xHdn S g hg whd
theorem xHw.m {S S1 : xT} {g g1 : xG} {hg whd : Nat} {L : List (Nat × Nat)} (h : xHw S g hg whd) (hm : xM L S g g1) (hle : xLe S S1) (hL : ∀ x ∈ [(10904, 0), (10800, 0), (14800, 0)], x ∉ L) : xHw S1 g1 hg whd :=
  ⟨hle _ _ h.1, hle _ _ h.2.1, xHdn.m h.2.2 h.1 h.2.1 hm hle ⟨hL _ (by decide), hL _ (by decide), hL _ (by decide)⟩⟩
def xMn (u t : Int) (Y : Nat → Int → Int) : Prop := (∀ j k : Int, 0 ≤ j → j ≤ k → k < u → Y 5 j ≤ Y 5 k) ∧ ∀ k : Int, 0 ≤ k → k < u → Y 5 k ≤ t
def xMW (S : xT) (g : xG) (x bn bo tx et wag wbd wfi wsc wbo wpa wco wcp who wdy wcn wcs wso wba wea wo wsr wam wcf wct wp wq wn wfd ow wow hg whd : Nat) (u b t d : Int) : Prop := ∃ (U B Xt : Int → Nat) (Y YB : Nat → Int → Int) (TT : Int → List xL3) (fr : Int → Int), xCW S g x bn bo tx et u b t U B Xt Y YB TT fr ∧ xRW S g wag wbd wfi wsc wbo wpa wco wcp who wdy wcn wcs wso wba wea wo wsr wam wcf wct wp wq wn wfd u b t Y YB TT fr ∧ xOw S g ow wow ∧ xHw S g hg whd ∧ xMn u d Y
theorem xMW_m {S S1 : xT} {g g1 : xG} {x bn bo tx et wag wbd wfi wsc wbo wpa wco wcp who wdy wcn wcs wso wba wea wo wsr wam wcf wct wp wq wn wfd ow wow hg whd : Nat} {u b t d : Int} {L : List (Nat × Nat)} (h : xMW S g x bn bo tx et wag wbd wfi wsc wbo wpa wco wcp who wdy wcn wcs wso wba wea wo wsr wam wcf wct wp wq wn wfd ow wow hg whd u b t d) (hm : xM L S g g1) (hle : xLe S S1) (hL : ∀ x ∈ [(100, 1), (10203, 0), (2, 0), (2, 1), (2, 2), (2, 3), (2, 4), (2, 5), (2, 6), (2, 7), (2, 8), (2, 9), (2, 10), (0, 1), (10103, 0), (1, 0), (1, 1), (1, 2), (1, 3), (1, 4), (1, 5), (300, 1), (10303, 0), (11, 0), (11, 1), (11, 3), (11, 4), (11, 5), (11, 6), (11, 7), (13600, 0), (13700, 0), (13800, 0), (13900, 0), (14000, 0), (12, 7), (14200, 0), (14300, 0), (14400, 0), (19301, 0), (16400, 0), (16500, 0), (16600, 0), (16700, 0), (16800, 0), (16900, 0), (14500, 0), (17000, 0), (17100, 0), (17200, 0), (17300, 0), (15300, 0), (15500, 0), (15600, 0), (15700, 0), (15800, 0), (15900, 0), (16000, 0), (16100, 0), (15400, 0), (11400, 0), (14600, 0), (10904, 0), (10800, 0), (14800, 0)], x ∉ L) : xMW S1 g1 x bn bo tx et wag wbd wfi wsc wbo wpa wco wcp who wdy wcn wcs wso wba wea wo wsr wam wcf wct wp wq wn wfd ow wow hg whd u b t d := by
  obtain ⟨U, B, Xt, Y, YB, TT, fr, h1, h2, h3, h4, hm9⟩ := h
  exact ⟨U, B, Xt, Y, YB, TT, fr, h1.m hm hle (fun x hx => hL x ((by decide : ∀ y ∈ [(100, 1), (10203, 0), (2, 0), (2, 1), (2, 2), (2, 3), (2, 4), (2, 5), (2, 6), (2, 7), (2, 8), (2, 9), (2, 10), (0, 1), (10103, 0), (1, 0), (1, 1), (1, 2), (1, 3), (1, 4), (1, 5), (300, 1), (10303, 0), (11, 0), (11, 1), (11, 3), (11, 4), (11, 5), (11, 6), (11, 7), (13600, 0), (13700, 0), (13800, 0), (13900, 0), (14000, 0), (12, 7)], y ∈ [(100, 1), (10203, 0), (2, 0), (2, 1), (2, 2), (2, 3), (2, 4), (2, 5), (2, 6), (2, 7), (2, 8), (2, 9), (2, 10), (0, 1), (10103, 0), (1, 0), (1, 1), (1, 2), (1, 3), (1, 4), (1, 5), (300, 1), (10303, 0), (11, 0), (11, 1), (11, 3), (11, 4), (11, 5), (11, 6), (11, 7), (13600, 0), (13700, 0), (13800, 0), (13900, 0), (14000, 0), (12, 7), (14200, 0), (14300, 0), (14400, 0), (19301, 0), (16400, 0), (16500, 0), (16600, 0), (16700, 0), (16800, 0), (16900, 0), (14500, 0), (17000, 0), (17100, 0), (17200, 0), (17300, 0), (15300, 0), (15500, 0), (15600, 0), (15700, 0), (15800, 0), (15900, 0), (16000, 0), (16100, 0), (15400, 0), (11400, 0), (14600, 0), (10904, 0), (10800, 0), (14800, 0)]) x hx)), h2.m hm hle (fun x hx => hL x ((by decide : ∀ y ∈ [(14200, 0), (14300, 0), (14400, 0), (19301, 0), (16400, 0), (16500, 0), (16600, 0), (16700, 0), (16800, 0), (16900, 0), (14500, 0), (17000, 0), (17100, 0), (17200, 0), (17300, 0), (15300, 0), (15500, 0), (15600, 0), (15700, 0), (15800, 0), (15900, 0), (16000, 0), (16100, 0), (15400, 0)], y ∈ [(100, 1), (10203, 0), (2, 0), (2, 1), (2, 2), (2, 3), (2, 4), (2, 5), (2, 6), (2, 7), (2, 8), (2, 9), (2, 10), (0, 1), (10103, 0), (1, 0), (1, 1), (1, 2), (1, 3), (1, 4), (1, 5), (300, 1), (10303, 0), (11, 0), (11, 1), (11, 3), (11, 4), (11, 5), (11, 6), (11, 7), (13600, 0), (13700, 0), (13800, 0), (13900, 0), (14000, 0), (12, 7), (14200, 0), (14300, 0), (14400, 0), (19301, 0), (16400, 0), (16500, 0), (16600, 0), (16700, 0), (16800, 0), (16900, 0), (14500, 0), (17000, 0), (17100, 0), (17200, 0), (17300, 0), (15300, 0), (15500, 0), (15600, 0), (15700, 0), (15800, 0), (15900, 0), (16000, 0), (16100, 0), (15400, 0), (11400, 0), (14600, 0), (10904, 0), (10800, 0), (14800, 0)]) x hx)), h3.m hm hle (fun x hx => hL x ((by decide : ∀ y ∈ [(11400, 0), (14600, 0)], y ∈ [(100, 1), (10203, 0), (2, 0), (2, 1), (2, 2), (2, 3), (2, 4), (2, 5), (2, 6), (2, 7), (2, 8), (2, 9), (2, 10), (0, 1), (10103, 0), (1, 0), (1, 1), (1, 2), (1, 3), (1, 4), (1, 5), (300, 1), (10303, 0), (11, 0), (11, 1), (11, 3), (11, 4), (11, 5), (11, 6), (11, 7), (13600, 0), (13700, 0), (13800, 0), (13900, 0), (14000, 0), (12, 7), (14200, 0), (14300, 0), (14400, 0), (19301, 0), (16400, 0), (16500, 0), (16600, 0), (16700, 0), (16800, 0), (16900, 0), (14500, 0), (17000, 0), (17100, 0), (17200, 0), (17300, 0), (15300, 0), (15500, 0), (15600, 0), (15700, 0), (15800, 0), (15900, 0), (16000, 0), (16100, 0), (15400, 0), (11400, 0), (14600, 0), (10904, 0), (10800, 0), (14800, 0)]) x hx)), h4.m hm hle (fun x hx => hL x ((by decide : ∀ y ∈ [(10904, 0), (10800, 0), (14800, 0)], y ∈ [(100, 1), (10203, 0), (2, 0), (2, 1), (2, 2), (2, 3), (2, 4), (2, 5), (2, 6), (2, 7), (2, 8), (2, 9), (2, 10), (0, 1), (10103, 0), (1, 0), (1, 1), (1, 2), (1, 3), (1, 4), (1, 5), (300, 1), (10303, 0), (11, 0), (11, 1), (11, 3), (11, 4), (11, 5), (11, 6), (11, 7), (13600, 0), (13700, 0), (13800, 0), (13900, 0), (14000, 0), (12, 7), (14200, 0), (14300, 0), (14400, 0), (19301, 0), (16400, 0), (16500, 0), (16600, 0), (16700, 0), (16800, 0), (16900, 0), (14500, 0), (17000, 0), (17100, 0), (17200, 0), (17300, 0), (15300, 0), (15500, 0), (15600, 0), (15700, 0), (15800, 0), (15900, 0), (16000, 0), (16100, 0), (15400, 0), (11400, 0), (14600, 0), (10904, 0), (10800, 0), (14800, 0)]) x hx)), hm9⟩
def xLnk (S : xT) (g : xG) (l : List (Nat × Nat × Nat × Nat)) : Prop := ∀ p ∈ l, S p.1 = some (p.2.1, 0) ∧ g p.1 p.2.2.1 = .ref p.2.2.2
theorem xLnk.m {S S1 : xT} {g g1 : xG} {l : List (Nat × Nat × Nat × Nat)} {L K : List (Nat × Nat)} (h : xLnk S g l) (hm : xM L S g g1) (hle : xLe S S1) (hK : l.map (fun p => (p.2.1, p.2.2.1)) = K) (ht : ∀ x ∈ K, x.1 < 10000) (hL : ∀ x ∈ K, x ∉ L) : xLnk S1 g1 l := fun p hp => by
  obtain ⟨h1, h2⟩ := h p hp
  have k : (p.2.1, p.2.2.1) ∈ K := by rw [← hK]; exact List.mem_map_of_mem hp
  refine ⟨hle _ _ h1, ?_⟩
  rw [hm p.1 p.2.1 0 p.2.2.1 h1 (by rw [xky_o (ht _ k)]; exact hL _ k)]
  exact h2
theorem xLnk.cons {S : xT} {g : xG} {a t k b : Nat} {l : List (Nat × Nat × Nat × Nat)} (hs : S a = some (t, 0)) (he : g a k = .ref b) (h : xLnk S g l) : xLnk S g ((a, t, k, b) :: l) := fun p hp => by
  rcases List.mem_cons.mp hp with e | e
  · rw [e]; exact ⟨hs, he⟩
  · exact h p e
theorem xLnk.nil {S : xT} {g : xG} : xLnk S g [] := fun p hp => absurd hp List.not_mem_nil
theorem xF9.eq {YB Y : Nat → Int → Int} {ow ow' sk sk' : Int → Int} {k : Int} (h1 : ow (Y 2 k) = ow' (Y 2 k)) (h2 : sk (Y 5 k) = sk' (Y 5 k)) : xF9 YB Y ow sk k = xF9 YB Y ow' sk' k := by
  unfold xF9
  rw [h1, h2]
theorem xKY.eq {YB Y : Nat → Int → Int} {ow ow' : Int → Int} {k : Int} (h1 : ow (Y 2 k) = ow' (Y 2 k)) : xKY Y YB ow k = xKY Y YB ow' k := by
  unfold xKY
  rw [h1]
theorem xRU.b {nu nb nb' : Int} {bo pa co cp ho dy : Int → Int} {Y : Nat → Int → Int} (h : xRU nu nb bo pa co cp ho dy Y) (hb : nb ≤ nb') : xRU nu nb' bo pa co cp ho dy Y := fun k q1 q2 => by
  obtain ⟨e1, e2, e3, e4, e5, e6, e7, e8⟩ := h k q1 q2
  exact ⟨e1, e2, e3, e4, e5, e6, ⟨e7.1, by omega⟩, e8⟩
theorem xBd.cg {tn : Int} {fr fr' : Int → Int} {TT : Int → List xL3} {FF FF' : Int → Int} {td nu nb b p c cp ho : Int} {Y YB : Nat → Int → Int} {r nu1 : Int} {Y1 YB1 : Nat → Int → Int} (h : xBd tn fr' TT FF' td nu nb b p c cp ho Y YB r nu1 Y1 YB1) (hfr : xRF tn fr' fr) (hF : xBv td nu nb b p c cp ho → FF' = FF) : xBd tn fr TT FF td nu nb b p c cp ho Y YB r nu1 Y1 YB1 := by
  rcases h with h | ⟨v, t, ht, h⟩
  · exact Or.inl h
  · have e := hF v
    subst e
    exact Or.inr ⟨v, t, ht.cr hfr, h⟩
theorem xBd.rb {tn : Int} {fr : Int → Int} {TT : Int → List xL3} {FF : Int → Int} {td nu nb b p c cp ho : Int} {Y YB : Nat → Int → Int} {r nu1 : Int} {Y1 YB1 : Nat → Int → Int} {ag bd fi sc : Int → Int} (h : xBd tn fr TT FF td nu nb b p c cp ho Y YB r nu1 Y1 YB1) (w : xRB nb ag bd fi sc YB) : xRB nb ag bd fi sc YB1 := by
  rcases h with ⟨_, _, _, _, e⟩ | ⟨_, t, _, ⟨_, _, _, _, e⟩ | ⟨_, _, _, _, e⟩⟩
  · rw [e]; exact w
  · rw [e]; exact w
  · rw [e]; exact w.cn (xwp.r _)
theorem xFFb.eq {ow ow' sk ms : Int → Int} {sm td nu nb b p c cp ho a1 a2 a3 a4 : Int} (how : xTc ow ow' 10) (hsk : xSm sk ms sm) (htd : 0 ≤ td) (hv : xBv td nu nb b p c cp ho) : xfct a1 a2 a3 a4 (if ow' c = b then 1 else 0) ho td p c cp (if sm = 0 then 0 else if td < sm then ms td else 3) = xfct a1 a2 a3 a4 (if ow c = b then 1 else 0) ho td p c cp (sk td) := by
  unfold xBv at hv
  rw [how c hv.2.2.2.2.1.1 (by omega), hsk td htd (by omega)]
theorem xCl9.rb {n : Nat} {nb : Int} {T : List xL3} {F : Int → Int → Int} {Y YB : Nat → Int → Int} {d : Int} {s : Int → Int} {Y1 YB1 : Nat → Int → Int} {ag bd fi sc : Int → Int} (h : xCl9 n nb T F Y YB d s Y1 YB1) (w : xRB nb ag bd fi sc YB) : xRB nb ag bd fi sc YB1 := fun k q1 q2 => by
  obtain ⟨e1, e2, e3, e4, e5⟩ := w k q1 q2
  have f := h.2.1
  have r := h.2.2.2 k q1 q2
  unfold xBr at e5 ⊢
  rw [f 0 (by decide), f 1 (by decide), f 2 (by decide), f 3 (by decide), f 4 (by decide), r]
  exact ⟨e1, e2, e3, e4, e5.1, e5.2.1, e5.2.2.1, e5.2.2.2.1, e5.2.2.2.2.1, xwp.r _⟩
theorem xCl9.ru {n : Nat} {nb nu : Int} {T : List xL3} {F : Int → Int → Int} {Y YB : Nat → Int → Int} {d : Int} {s : Int → Int} {Y1 YB1 : Nat → Int → Int} {bo pa co cp ho dy : Int → Int} (h : xCl9 n nb T F Y YB d s Y1 YB1) (w : xRU nu nb bo pa co cp ho dy Y) : xRU nu nb bo pa co cp ho dy Y1 := fun k q1 q2 => by
  have f := h.1
  unfold xUr
  rw [f 0 (by decide), f 1 (by decide), f 2 (by decide), f 3 (by decide), f 4 (by decide), f 5 (by decide), f 6 (by decide)]
  exact w k q1 q2
theorem xRk.cg {nb : Int} {cn : Int → Int} {YB YB' : Nat → Int → Int} (h : xRk nb cn YB) (e : ∀ b : Int, 0 ≤ b → b < nb → YB' 5 b = YB 5 b) : xRk nb cn YB' := fun k q1 q2 => by
  rw [e k q1 q2]; exact h k q1 q2
theorem xRv.cg {nu : Int} {cs so ba ea : Int → Int} {Y Y' : Nat → Int → Int} (h : xRv nu cs so ba ea Y) (e : ∀ k : Int, 0 ≤ k → k < nu → ∀ f : Nat, f ≤ 10 → Y' f k = Y f k) : xRv nu cs so ba ea Y' := fun k q1 q2 => by
  rw [e k q1 q2 7 (by decide), e k q1 q2 8 (by decide), e k q1 q2 9 (by decide), e k q1 q2 10 (by decide)]; exact h k q1 q2
theorem xTol.det {nu nb k w r r' tn sm : Int} {Y YB : Nat → Int → Int} {TT : Int → List xL3} {fr fr' ow ow' sk ms : Int → Int} (hu : ∀ k : Int, 0 ≤ k → k < nu → (0 ≤ Y 0 k ∧ Y 0 k < nb) ∧ xUr Y k) (how : xTc ow ow' 10) (hsk : xSm sk ms sm) (hfr : xRF tn fr' fr) (a : (0 ≤ k ∧ k < nu ∧ 0 ≤ w ∧ w ≤ 5 ∧ ∃ t9 : Int, xTf tn fr (Y 5 k) t9 ∧ r = xts9 (xTt9 TT t9) (xF9 YB Y ow sk k) w) ∨ (¬ (0 ≤ k ∧ k < nu ∧ 0 ≤ w ∧ w ≤ 5) ∧ r = -1)) (a' : (0 ≤ k ∧ k < nu ∧ 0 ≤ w ∧ w ≤ 5 ∧ ∃ t9 : Int, xTf tn fr' (Y 5 k) t9 ∧ r' = xts9 (xTt9 TT t9) (xF9 YB Y ow' (fun d9 => if sm = 0 then 0 else if d9 < sm then ms d9 else 3) k) w) ∨ (¬ (0 ≤ k ∧ k < nu ∧ 0 ≤ w ∧ w ≤ 5) ∧ r' = -1)) : r = r' := by
  rcases a with ⟨q1, q2, q3, q4, t, ht, e⟩ | ⟨q, e⟩
  · rcases a' with ⟨_, _, _, _, t', ht', e'⟩ | ⟨q', _⟩
    · have et := ht.det (ht'.cr hfr)
      have u := (hu k q1 q2).2
      unfold xUr at u
      rw [e, e', ← et, xF9.eq (ow' := ow') (sk' := fun d9 => if sm = 0 then 0 else if d9 < sm then ms d9 else 3) (how _ u.2.1.1 (by omega)) (hsk _ u.2.2.2.2.1.1 (by omega))]
    · exact absurd ⟨q1, q2, q3, q4⟩ q'
  · rcases a' with ⟨q1, q2, q3, q4, _⟩ | ⟨_, e'⟩
    · exact absurd ⟨q1, q2, q3, q4⟩ q
    · rw [e, e']
theorem xDay.det {nu nb td sm : Int} {Y YB : Nat → Int → Int} {T : List xL3} {ow ow' sk ms wt wt' ld ld' mw hd s s' : Int → Int} {WN HD : Int → Int → Int} (hn : 0 ≤ nu ∧ nu ≤ 200) (hu : ∀ k : Int, 0 ≤ k → k < nu → (0 ≤ Y 0 k ∧ Y 0 k < nb) ∧ xUr Y k) (hb : ∀ b : Int, 0 ≤ b → b < nb → xBr YB b) (how : xTc ow ow' 10) (hsk : xSm sk ms sm) (hwt : xTc wt wt' 4) (hld : xTc ld ld' 6) (hr : ∀ d : Int, 0 ≤ d → d < 400 → 0 ≤ sk d ∧ sk d ≤ 3) (hh : ∀ i : Int, 0 ≤ i → i < 1600 → 0 ≤ hd i ∧ hd i ≤ 5) (htd : 0 ≤ td ∧ td < 400) (hW : ∀ c p : Int, 0 ≤ c → c < 10 → 0 ≤ p → p < 4 → WN c p = mw (4 * c + p)) (hH : ∀ p d : Int, 0 ≤ p → p < 4 → 0 ≤ d → d < 400 → HD p d = hd (400 * p + d))
    (a : xSd nu.toNat (Y 5) (Y 2) (Y 1) (Y 3) (xKY Y YB ow) (fun k9 => xts9 T (xF9 YB Y ow sk k9) 4) (fun c9 p9 => xas (WN c9 p9) (wt (sk td)) (ld (HD p9 td))) td s)
    (a' : xSd nu.toNat (Y 5) (Y 2) (Y 1) (Y 3) (xKY Y YB ow') (fun k9 => xts9 T (xF9 YB Y ow' (fun d9 => if sm = 0 then 0 else if d9 < sm then ms d9 else 3) k9) 4) (fun c9 p9 => xas (mw (4 * c9 + p9)) (wt' (if sm = 0 then 0 else if td < sm then ms td else 3)) (ld' (hd (400 * p9 + td)))) td s') : (∀ k : Int, 0 ≤ k → k < ((nu.toNat : Nat) : Int) → xF9 YB Y ow sk k = xF9 YB Y ow' (fun d9 => if sm = 0 then 0 else if d9 < sm then ms d9 else 3) k) ∧ ∀ k : Int, 0 ≤ k → k < ((nu.toNat : Nat) : Int) → Y 5 k = td → s k = s' k := by
  have hF : ∀ k : Int, 0 ≤ k → k < ((nu.toNat : Nat) : Int) → xF9 YB Y ow sk k = xF9 YB Y ow' (fun d9 => if sm = 0 then 0 else if d9 < sm then ms d9 else 3) k := fun k q1 q2 => by
    have u := (hu k q1 (by omega)).2
    unfold xUr at u
    exact xF9.eq (how _ u.2.1.1 (by omega)) (hsk _ u.2.2.2.2.1.1 (by omega))
  refine ⟨hF, xSd.det (fun k q1 q2 => ?_) (fun k q1 q2 => ?_) (fun k q1 q2 q3 => ?_) a a'⟩
  · obtain ⟨v, u⟩ := hu k q1 (by omega)
    have f := hb (Y 0 k) v.1 v.2
    unfold xBr at f
    exact xKY.nn (by omega) u f.2.2.2.1
  · have u := (hu k q1 (by omega)).2
    unfold xUr at u
    exact ⟨rfl, rfl, rfl, xKY.eq (how _ u.2.1.1 (by omega))⟩
  · have u := (hu k q1 (by omega)).2
    unfold xUr at u
    refine ⟨rfl, ?_, ?_⟩
    · show xts9 T (xF9 YB Y ow sk k) 4 = xts9 T (xF9 YB Y ow' _ k) 4
      rw [hF k q1 q2]
    · show xas (WN (Y 2 k) (Y 1 k)) (wt (sk td)) (ld (HD (Y 1 k) td)) = xas (mw (4 * Y 2 k + Y 1 k)) (wt' (if sm = 0 then 0 else if td < sm then ms td else 3)) (ld' (hd (400 * Y 1 k + td)))
      have s3 := hr td htd.1 htd.2
      have h5 := hh (400 * Y 1 k + td) (by omega) (by omega)
      rw [hW _ _ u.2.1.1 (by omega) u.1.1 (by omega), hH _ _ u.1.1 (by omega) htd.1 htd.2, ← hsk td htd.1 htd.2, hwt _ s3.1 (by omega), hld _ h5.1 (by omega)]
theorem xClo.all {S1 : xT} {g1 : xG} {bn bo : Nat} {nu nb td tn r r' sm : Int} {U B : Int → Nat} {Y YB : Nat → Int → Int} {TT : Int → List xL3} {fr fr' ow ow' sk ms wt wt' ld ld' mw hd : Int → Int} {WN HD : Int → Int → Int} {ag bd fi sc rbo pa co cp ho dy cs cn so ba ea cs' cn' so' ba' ea' : Int → Int} (hn : 0 ≤ nu ∧ nu ≤ 200) (hrb : xRB nb ag bd fi sc YB) (hru : xRU nu nb rbo pa co cp ho dy Y) (hrk : xRk nb cn YB) (hrv : xRv nu cs so ba ea Y) (hcs : cs' = cs) (how : xTc ow ow' 10) (hsk : xSm sk ms sm) (hwt : xTc wt wt' 4) (hld : xTc ld ld' 6) (hr : ∀ d : Int, 0 ≤ d → d < 400 → 0 ≤ sk d ∧ sk d ≤ 3) (hh : ∀ i : Int, 0 ≤ i → i < 1600 → 0 ≤ hd i ∧ hd i ≤ 5) (htd : 0 ≤ td) (hfr : xRF tn fr' fr) (hW : ∀ c p : Int, 0 ≤ c → c < 10 → 0 ≤ p → p < 4 → WN c p = mw (4 * c + p)) (hH : ∀ p d : Int, 0 ≤ p → p < 4 → 0 ≤ d → d < 400 → HD p d = hd (400 * p + d))
    (a : (td = 400 ∧ r = -1 ∧ xUW S1 g1 bn nu nb U B Y ∧ xBW S1 g1 bo nb B YB) ∨ (td < 400 ∧ ∃ (t9 : Int) (s9 : Int → Int) (Y9 YB9 : Nat → Int → Int), xTf tn fr td t9 ∧ xSd nu.toNat (Y 5) (Y 2) (Y 1) (Y 3) (xKY Y YB ow) (fun k9 => xts9 (xTt9 TT t9) (xF9 YB Y ow sk k9) 4) (fun c9 p9 => xas (WN c9 p9) (wt (sk td)) (ld (HD p9 td))) td s9 ∧ xCl9 nu.toNat nb (xTt9 TT t9) (xF9 YB Y ow sk) Y YB td s9 Y9 YB9 ∧ r = xwp (0 + xzm (fun k9 => if Y 5 k9 = td then xwh9 0 (xTt9 TT t9) (xF9 YB Y ow sk) (Y 3) s9 k9 else 0) nu.toNat) ∧ xUW S1 g1 bn nu nb U B Y9 ∧ xBW S1 g1 bo nb B YB9))
    (a' : (td = 400 ∧ r' = -1 ∧ cn' = cn ∧ so' = so ∧ ba' = ba ∧ ea' = ea) ∨ (td < 400 ∧ ∃ (t9 : Int) (s9 : Int → Int) (Y9 YB9 : Nat → Int → Int), xTf tn fr' td t9 ∧ xSd nu.toNat (Y 5) (Y 2) (Y 1) (Y 3) (xKY Y YB ow') (fun k9 => xts9 (xTt9 TT t9) (xF9 YB Y ow' (fun d9 => if sm = 0 then 0 else if d9 < sm then ms d9 else 3) k9) 4) (fun c9 p9 => xas (mw (4 * c9 + p9)) (wt' (if sm = 0 then 0 else if td < sm then ms td else 3)) (ld' (hd (400 * p9 + td)))) td s9 ∧ xCl9 nu.toNat nb (xTt9 TT t9) (xF9 YB Y ow' (fun d9 => if sm = 0 then 0 else if d9 < sm then ms d9 else 3)) Y YB td s9 Y9 YB9 ∧ r' = xwp (0 + xzm (fun k9 => if Y 5 k9 = td then xwh9 0 (xTt9 TT t9) (xF9 YB Y ow' (fun d9 => if sm = 0 then 0 else if d9 < sm then ms d9 else 3)) (Y 3) s9 k9 else 0) nu.toNat) ∧ xRk nb cn' YB9 ∧ xRv nu cs' so' ba' ea' Y9)) :
    ∃ (Y1 YB1 : Nat → Int → Int), r = r' ∧ xUW S1 g1 bn nu nb U B Y1 ∧ xBW S1 g1 bo nb B YB1 ∧ xRB nb ag bd fi sc YB1 ∧ xRU nu nb rbo pa co cp ho dy Y1 ∧ xRk nb cn' YB1 ∧ xRv nu cs' so' ba' ea' Y1 ∧ Y1 5 = Y 5 := by
  have en : ((nu.toNat : Nat) : Int) = nu := by omega
  rcases a with ⟨q, e, u, w⟩ | ⟨q, t, s, Y9, YB9, x1, x2, x3, x4, x5, x6⟩
  · rcases a' with ⟨_, e', k1, k2, k3, k4⟩ | ⟨q', _⟩
    · exact ⟨Y, YB, by rw [e, e'], u, w, hrb, hru, by rw [k1]; exact hrk, by rw [hcs, k2, k3, k4]; exact hrv, rfl⟩
    · omega
  · rcases a' with ⟨q', _⟩ | ⟨_, t', s', Y8, YB8, y1, y2, y3, y4, y5, y6⟩
    · omega
    · have et := x1.det (y1.cr hfr)
      subst et
      obtain ⟨hF, hs⟩ := xDay.det hn (fun k q1 q2 => (hru k q1 q2).2.2.2.2.2.2) (fun b q1 q2 => (hrb b q1 q2).2.2.2.2) how hsk hwt hld hr hh ⟨htd, q⟩ hW hH x2 y2
      obtain ⟨dY, dB⟩ := xCl9.det x3 y3 hF hs
      refine ⟨Y9, YB9, ?_, x5, x6, x3.rb hrb, x3.ru hru, y5.cg (fun b q1 q2 => dB b q1 q2 5 (by decide)), y6.cg (fun k q1 q2 f hf => dY k q1 (by omega) f hf), x3.1 5 (by decide)⟩
      rw [x4, y4]
      congr 2
      refine xzm.cg nu.toNat (fun k r1 r2 => ?_)
      show (if Y 5 k = td then _ else _) = (if Y 5 k = td then _ else _)
      by_cases c : Y 5 k = td
      · rw [if_pos c, if_pos c]; exact xwh9.cg (hF k r1 r2) rfl (hs k r1 r2 c)
      · rw [if_neg c, if_neg c]
theorem xm10 {P : Int → Prop} (h0 : P 0) (h1 : P 1) (h2 : P 2) (h3 : P 3) (h4 : P 4) (h5 : P 5) (h6 : P 6) (h7 : P 7) (h8 : P 8) (h9 : P 9) : ∀ i : Int, 0 ≤ i → i < 10 → P i := fun i q1 q2 => by
  rcases (show i = 0 ∨ i = 1 ∨ i = 2 ∨ i = 3 ∨ i = 4 ∨ i = 5 ∨ i = 6 ∨ i = 7 ∨ i = 8 ∨ i = 9 by omega) with e | e | e | e | e | e | e | e | e | e <;> subst e <;> assumption
theorem xOw.up {S : xT} {g0 g1 g2 : xG} {ow wow : Nat} {r r' c v : Int} (h : xOw S g0 ow wow) (e : r = r') (h1 : (r = 1 → xUp (xv g1 ow) (xv g0 ow) c v) ∧ (r ≠ 1 → xv g1 ow = xv g0 ow)) (h2 : (r' = 1 → xUp (xv g2 wow) (xv g1 wow) c v) ∧ (r' ≠ 1 → xv g2 wow = xv g1 wow)) (k1 : xv g2 ow = xv g1 ow) (k2 : xv g1 wow = xv g0 wow) : xOw S g2 ow wow := by
  refine ⟨h.1, h.2.1, ?_⟩
  rw [k1]
  by_cases c : r = 1
  · have u1 := h1.1 c
    have u2 := h2.1 (by omega)
    rw [k2] at u2
    exact xTc.up h.2.2 u1 u2
  · rw [h1.2 c, h2.2 (by omega), k2]
    exact h.2.2
