/-! what the desk and the reference have in common between two calls -/
def iC (h : PH) (s C : F_) (e : Int) : Prop := Mq C e h ∧ cOk C ∧ symN C ∧ 0 ≤ e ∧ Mc h s C ∧ ∃ tb, h.2 60 = some (cI 1681 tb)
def iH (h : PH) (s : F_) : Prop := ∃ lf sf hf : F_, Rw h 9 40 1 lf sf ∧ RwW 40 1 lf ∧ rvd sf 0 (lf 0) ∧ h.2 61 = some (cI 40 hf) ∧ s 6 = lf 0 ∧ ∀ i : Nat, (i : Int) < lf 0 → hf i = sf i
def iT (h : PH) (s : F_) : Prop := ∃ (nt : Nat) (f g : F_), Tp h 12 nt f ∧ nt ≤ 400 ∧ h.2 62 = some (.inl (1, 400, g)) ∧ s 8 = nt ∧ (∀ k, k < 400 → -128 ≤ g k ∧ g k ≤ 127) ∧ ∀ k, k < nt → f k = g k % 256
def rvL (w : Nat) (R : LxT) : Prop := ∀ k, k < R.1 → rvd R.2.2.2.2 (k * w) (R.2.2.2.1 k)
/-- the reference's rules and book, but for the tape -/
def MLr (h : PH) (s : F_) (R E : LxT) : Prop := (∃ sd, h.2 71 = some (cI 40 sd)) ∧ s 14 = R.1 ∧ s 19 = E.1 ∧
  (∃ L ln S mn, h.2 63 = some (cI 240 L) ∧ h.2 64 = some (cI 60 ln) ∧ h.2 65 = some (cI 180 S) ∧ h.2 66 = some (cI 60 mn) ∧ lxR R.2.1 R.2.2.1 R.1 L ln 4 ∧ lxS R.2.2.2.1 R.2.2.2.2 R.1 3 mn S) ∧
  (∃ L ln S mn, h.2 67 = some (cI 400 L) ∧ h.2 68 = some (cI 40 ln) ∧ h.2 69 = some (cI 800 S) ∧ h.2 70 = some (cI 40 mn) ∧ lxR E.2.1 E.2.2.1 E.1 L ln 10 ∧ lxS E.2.2.2.1 E.2.2.2.2 E.1 20 mn S)
def iL (h : PH) (s : F_) : Prop := ∃ (R E : LxT) (lf sf : F_), Rd h 26 14 20 27 ∧ Lx h 14 60 4 3 R.1 R.2.1 R.2.2.1 R.2.2.2.1 R.2.2.2.2 ∧ Lx h 20 40 10 20 E.1 E.2.1 E.2.2.1 E.2.2.2.1 E.2.2.2.2 ∧ h.2 27 = some (cO 8 [vI (20 : Nat), vR (27 + 1), vR (27 + 2)]) ∧ h.2 28 = some (cI 1 lf) ∧ h.2 29 = some (cI 20 sf) ∧ (0 ≤ lf 0 ∧ lf 0 ≤ 20) ∧ EnvI R E ∧ rvL 3 R ∧ rvL 20 E ∧ MLr h s R E
def iX (h : PH) : Prop := (∃ (o e : Int) (rc : Nat), h.2 30 = some (prO 26 o e rc)) ∧ gAr h ∧ (∃ a, h.2 83 = some (cI 960 a)) ∧ ∃ a, h.2 84 = some (cI 8 a)
def iG (h : PH) (s : F_) (sp pc sz : Nat) (cl cs pk pm : F_) : Prop := sp = 42 ∧ (∃ (wl ws wp wq op oq pt ob nw : F_) (wc : Nat × Nat), Gr h sp wl ws wp wq op oq pt ob nw pk cl cs wc.1 wc.2 sz pc ∧ RwW 20 20 wl) ∧ RwW 40 120 cl ∧
  True ∧ sz ≤ 120 ∧ pc ≤ 8 ∧ (∀ l, l < sz → rvd cs (l * 40) (cl l)) ∧ h.2 80 = some (cI 960 pm) ∧ s 35 = sz ∧ s 36 = pc ∧
  ∃ sd sm, h.2 81 = some (cI 4800 sd) ∧ h.2 82 = some (cI 120 sm) ∧ gnI pc sz cl cs pk pm sd sm
def iN (h : PH) (C : F_) (e : Int) (cl cs : F_) (sz : Nat) : Prop := ∃ (kn ed : Int) (S : Int × Int × Int), h.2 31 = some (neO kn ed S) ∧ (kn = 0 ∨ kn = 1) ∧ ed ≤ e ∧ (kn = 1 → ed = e → S = nfA C cl cs sz)
/-- what was heard, both alike -/
def heB (s : F_) (pc sz : Nat) (pk : F_) (ac : Nat) (S : HS) (ag : F_) : Prop := s 45 = S.1 ∧ (0 ≤ S.1 ∧ S.1 < sz) ∧ s 46 = S.2.1 ∧ s 47 = S.2.2.1 ∧ ((S.2.2.1 = -1 ∧ S.2.2.2 = -1 ∧ ac = 0) ∨ ((0 ≤ S.2.2.1 ∧ S.2.2.1 < sz) ∧ s 48 = S.2.2.2 ∧ ∃ ag0, (ac, ag) = askL pk S.1.toNat S.2.2.1.toNat pc 0 (0, ag0)))
def iE (h : PH) (s : F_) (pc sz : Nat) (pk : F_) : Prop := ∃ (ac : Nat) (S : HS) (ag : F_), h.2 32 = some (heO 32 ac S) ∧ h.2 33 = some (cI 8 ag) ∧ ac ≤ 8 ∧ ((0 ≤ s 46 ∧ s 46 ≤ 1000000) ∧ (0 ≤ s 48 ∧ s 48 ≤ 1000000) ∧ s 45 < 120 ∧ s 47 < 120) ∧ ((S.1 = -1 ∧ S.2.2.1 = -1 ∧ ac = 0 ∧ s 45 = -1) ∨ heB s pc sz pk ac S ag)
/-- what the desk has kept of its choice is what the reference would choose now -/
def Kp (C WS WM SW : F_) (sz : Nat) (T : TS) : Prop := (¬ rdyM SW sz → T.1 = -1 ∧ ∀ i, i < sz → T.2.2 i = -1) ∧ (rdyM SW sz → ∀ F ch bs, farI C WS WM SW F 32 0 → T.1 = (fldM F sz SW sz 0 (flF 0 sz 0 ch) (-1, bs)).1 ∧ ∀ i, i < sz → T.2.2 i = if (fldM F sz SW sz 0 (flF 0 sz 0 ch) (-1, bs)).1 < 0 then -1 else (fldM F sz SW sz 0 (flF 0 sz 0 ch) (-1, bs)).2 i)
def slW (wl ws wn WS WM SW : F_) : Prop := (∀ i, i < 8 → SW i = wn i) ∧ ∀ a, a < 32 → vld SW a → WM a = wl a ∧ ∀ i : Nat, (i : Int) < wl a → WS (20 * a + i) = ws (a * 20 + i)
def iS (h : PH) (s C : F_) (e : Int) : Prop := ∃ (sz : Nat) (kn ed : Int) (T : TS) (wl ws wn G WS WM SW : F_), h.2 34 = some (slO 34 sz T.1 kn ed) ∧ Rw h (34 + 1) 20 32 wl ws ∧ RwW 20 32 wl ∧ h.2 (34 + 4) = some (cI 8 wn) ∧ h.2 (34 + 5) = some (cI 1024 G) ∧ h.2 (34 + 6) = some (cI 8 T.2.1) ∧ h.2 (34 + 7) = some (cI 8 T.2.2) ∧
  (∀ s : Nat, s < 8 → 0 ≤ wn s ∧ wn s ≤ 4) ∧ (∀ s w : Nat, s < 8 → (w : Int) < wn s → rvd ws ((s * 4 + w) * 20) (wl (s * 4 + w))) ∧ sz ≤ 8 ∧ (kn = 0 ∨ kn = 1) ∧ ed ≤ e ∧ h.2 85 = some (cI 640 WS) ∧ h.2 86 = some (cI 32 WM) ∧ h.2 87 = some (cI 8 SW) ∧ (∃ F, h.2 88 = some (cI 1024 F)) ∧ (∃ a, h.2 89 = some (cI 8 a)) ∧ (∃ a, h.2 90 = some (cI 8 a)) ∧ s 52 = sz ∧ slW wl ws wn WS WM SW ∧ (kn = 1 → ed = e → Kp C WS WM SW sz T)
def InvB (n : Nat) (h : PH) (s C : F_) (e : Int) (sp pc sz : Nat) (cl cs pk pm : F_) : Prop := h.2 57 = some (mO s) ∧ h.2 1 = some (sdO sp (s 34)) ∧ e ≤ n ∧ iC h s C e ∧ iH h s ∧ iT h s ∧ iL h s ∧ iX h ∧ iG h s sp pc sz cl cs pk pm ∧ iN h C e cl cs sz ∧ iE h s pc sz pk ∧ iS h s C e
def Inv (n : Nat) (h : PH) : Prop := ∃ (s C : F_) (e : Int) (sp pc sz : Nat) (cl cs pk pm : F_), InvB n h s C e sp pc sz cl cs pk pm
section Inv96
variable {h h' : PH} {s t C : F_} {e : Int} {sp pc sz : Nat} {cl cs pk pm : F_}
theorem Mq.fr (hf : ∀ z, 2 ≤ z → z ≤ 8 → h'.2 z = h.2 z) (hM : Mq C e h) : Mq C e h' := by
  obtain ⟨Nr, u, m1, m2, m3, m4⟩ := hM
  exact ⟨Nr, u, m1.fr (fun z a b => hf z (by omega) (by omega)), m2, m3, m4.fr (fun z a b => hf z (by omega) (by omega))⟩
theorem Mc.fr (hf : ∀ z, 58 ≤ z → z ≤ 59 → h'.2 z = h.2 z) (h3 : t 3 = s 3) (hM : Mc h s C) : Mc h' t C := by
  obtain ⟨m1, Nr, m2, m3⟩ := hM
  refine ⟨(hf _ (by omega) (by omega)).trans m1, Nr, (hf _ (by omega) (by omega)).trans m2, ?_⟩
  rw [h3]; exact m3
theorem iC.fr (hI : iC h s C e) (hf : ∀ z, (2 ≤ z ∧ z ≤ 8) ∨ (58 ≤ z ∧ z ≤ 60) → h'.2 z = h.2 z) (h3 : t 3 = s 3) : iC h' t C e := by
  obtain ⟨i1, i2, i3, i4, i5, tb, i6⟩ := hI
  exact ⟨i1.fr (fun z a b => hf z (by omega)), i2, i3, i4, i5.fr (fun z a b => hf z (by omega)) h3, tb, (hf 60 (by omega)).trans i6⟩
theorem iH.fr (hI : iH h s) (hf : ∀ z, (9 ≤ z ∧ z ≤ 11) ∨ z = 61 → h'.2 z = h.2 z) (h6 : t 6 = s 6) : iH h' t := by
  obtain ⟨lf, sf, hf', i1, i2, i3, i4, i5, i6⟩ := hI
  exact ⟨lf, sf, hf', i1.fr (fun z a b => hf z (by omega)), i2, i3, (hf 61 (by omega)).trans i4, h6.trans i5, i6⟩
theorem iT.fr (hI : iT h s) (hf : ∀ z, z = 12 ∨ z = 13 ∨ z = 62 → h'.2 z = h.2 z) (h8 : t 8 = s 8) : iT h' t := by
  obtain ⟨nt, f, g, i1, i2, i3, i4, i5, i6⟩ := hI
  exact ⟨nt, f, g, i1.fr (fun z a b => hf z (by omega)), i2, (hf 62 (by omega)).trans i3, h8.trans i4, i5, i6⟩
theorem MLr.fr {R E : LxT} (hI : MLr h s R E) (hf : ∀ z, 63 ≤ z → z ≤ 70 → h'.2 z = h.2 z) (h86 : ∃ sd, h'.2 71 = some (cI 40 sd)) (h14 : t 14 = s 14) (h19 : t 19 = s 19) : MLr h' t R E := by
  obtain ⟨-, i2, i3, ⟨L, ln, S, mn, j1, j2, j3, j4, j5, j6⟩, ⟨L', ln', S', mn', k1, k2, k3, k4, k5, k6⟩⟩ := hI
  exact ⟨h86, h14.trans i2, h19.trans i3, ⟨L, ln, S, mn, (hf _ (by omega) (by omega)).trans j1, (hf _ (by omega) (by omega)).trans j2, (hf _ (by omega) (by omega)).trans j3, (hf _ (by omega) (by omega)).trans j4, j5, j6⟩, ⟨L', ln', S', mn', (hf _ (by omega) (by omega)).trans k1, (hf _ (by omega) (by omega)).trans k2, (hf _ (by omega) (by omega)).trans k3, (hf _ (by omega) (by omega)).trans k4, k5, k6⟩⟩
/-- what was read last may be another -/
theorem iL.fr2 (hI : iL h s) (hf : ∀ z, (14 ≤ z ∧ z ≤ 27) ∨ (63 ≤ z ∧ z ≤ 70) → h'.2 z = h.2 z) (h86 : ∃ sd, h'.2 71 = some (cI 40 sd)) (h28 : ∃ lf sf : F_, h'.2 28 = some (cI 1 lf) ∧ h'.2 29 = some (cI 20 sf) ∧ (0 ≤ lf 0 ∧ lf 0 ≤ 20)) (h14 : t 14 = s 14) (h19 : t 19 = s 19) : iL h' t := by
  obtain ⟨R, E, lf, sf, i1, i2, i3, i4, i5, i6, i7, i8, i9, i10, i11⟩ := hI
  obtain ⟨lf', sf', j1, j2, j3⟩ := h28
  exact ⟨R, E, lf', sf', (hf _ (by omega)).trans i1, i2.fr (fun z a b => hf z (by omega)), i3.fr (fun z a b => hf z (by omega)), (hf _ (by omega)).trans i4, j1, j2, j3, i8, i9, i10, i11.fr (fun z a b => hf z (by omega)) h86 h14 h19⟩
theorem iL.e86 (hI : iL h s) : ∃ sd, h.2 71 = some (cI 40 sd) := by
  obtain ⟨R, E, lf, sf, i1, i2, i3, i4, i5, i6, i7, i8, i9, i10, i11⟩ := hI
  exact i11.1
theorem iL.e28 (hI : iL h s) : ∃ lf sf : F_, h.2 28 = some (cI 1 lf) ∧ h.2 29 = some (cI 20 sf) ∧ (0 ≤ lf 0 ∧ lf 0 ≤ 20) := by
  obtain ⟨R, E, lf, sf, i1, i2, i3, i4, i5, i6, i7, i8, i9, i10, i11⟩ := hI
  exact ⟨lf, sf, i5, i6, i7⟩
theorem iL.fr (hI : iL h s) (hf : ∀ z, (14 ≤ z ∧ z ≤ 29) ∨ (63 ≤ z ∧ z ≤ 71) → h'.2 z = h.2 z) (h14 : t 14 = s 14) (h19 : t 19 = s 19) : iL h' t := by
  obtain ⟨sd, q⟩ := hI.e86
  obtain ⟨lf, sf, q1, q2, q3⟩ := hI.e28
  exact hI.fr2 (fun z a => hf z (by omega)) ⟨sd, (hf _ (by omega)).trans q⟩ ⟨lf, sf, (hf _ (by omega)).trans q1, (hf _ (by omega)).trans q2, q3⟩ h14 h19
theorem gAr.fr (hI : gAr h) (hf : ∀ z, 71 ≤ z → z ≤ 79 → h'.2 z = h.2 z) : gAr h' := by
  obtain ⟨⟨a1, b1⟩, ⟨a2, b2⟩, ⟨a3, b3⟩, ⟨a4, b4⟩, ⟨a5, b5⟩, ⟨a6, b6⟩, ⟨a7, b7⟩, ⟨a8, b8⟩, ⟨a9, b9⟩⟩ := hI
  exact ⟨⟨a1, (hf _ (by omega) (by omega)).trans b1⟩, ⟨a2, (hf _ (by omega) (by omega)).trans b2⟩, ⟨a3, (hf _ (by omega) (by omega)).trans b3⟩, ⟨a4, (hf _ (by omega) (by omega)).trans b4⟩, ⟨a5, (hf _ (by omega) (by omega)).trans b5⟩, ⟨a6, (hf _ (by omega) (by omega)).trans b6⟩, ⟨a7, (hf _ (by omega) (by omega)).trans b7⟩, ⟨a8, (hf _ (by omega) (by omega)).trans b8⟩, ⟨a9, (hf _ (by omega) (by omega)).trans b9⟩⟩
theorem gAr.fr86 (hI : gAr h) (hf : ∀ z, 72 ≤ z → z ≤ 79 → h'.2 z = h.2 z) (h86 : ∃ a, h'.2 71 = some (cI 40 a)) : gAr h' := by
  obtain ⟨⟨a1, b1⟩, ⟨a2, b2⟩, ⟨a3, b3⟩, ⟨a4, b4⟩, ⟨a5, b5⟩, ⟨a6, b6⟩, ⟨a7, b7⟩, ⟨a8, b8⟩, ⟨a9, b9⟩⟩ := hI
  exact ⟨h86, ⟨a2, (hf _ (by omega) (by omega)).trans b2⟩, ⟨a3, (hf _ (by omega) (by omega)).trans b3⟩, ⟨a4, (hf _ (by omega) (by omega)).trans b4⟩, ⟨a5, (hf _ (by omega) (by omega)).trans b5⟩, ⟨a6, (hf _ (by omega) (by omega)).trans b6⟩, ⟨a7, (hf _ (by omega) (by omega)).trans b7⟩, ⟨a8, (hf _ (by omega) (by omega)).trans b8⟩, ⟨a9, (hf _ (by omega) (by omega)).trans b9⟩⟩
theorem iX.fr86 (hI : iX h) (hf : ∀ z, z = 30 ∨ (72 ≤ z ∧ z ≤ 79) ∨ z = 83 ∨ z = 84 → h'.2 z = h.2 z) (h86 : ∃ a, h'.2 71 = some (cI 40 a)) : iX h' := by
  obtain ⟨⟨o, e, rc, i1⟩, i2, ⟨a, i3⟩, ⟨b, i4⟩⟩ := hI
  exact ⟨⟨o, e, rc, (hf _ (by omega)).trans i1⟩, i2.fr86 (fun z a b => hf z (by omega)) h86, ⟨a, (hf _ (by omega)).trans i3⟩, ⟨b, (hf _ (by omega)).trans i4⟩⟩
theorem iX.fr (hI : iX h) (hf : ∀ z, z = 30 ∨ (71 ≤ z ∧ z ≤ 79) ∨ z = 83 ∨ z = 84 → h'.2 z = h.2 z) : iX h' := by
  obtain ⟨a, q⟩ := hI.2.1.1
  exact hI.fr86 (fun z a => hf z (by omega)) ⟨a, (hf _ (by omega)).trans q⟩
theorem iG.fr (hI : iG h s sp pc sz cl cs pk pm) (hf : ∀ z, (42 ≤ z ∧ z ≤ 56) ∨ (80 ≤ z ∧ z ≤ 82) → h'.2 z = h.2 z) (h35 : t 35 = s 35) (h36 : t 36 = s 36) : iG h' t sp pc sz cl cs pk pm := by
  obtain ⟨i0, ⟨wl, ws, wp, wq, op, oq, pt, ob, nw, wc, i1, i2⟩, i3, j1, i4, i5, i6, i7, i8, i9, sd, sm, i10, i11, i12⟩ := hI
  exact ⟨i0, ⟨wl, ws, wp, wq, op, oq, pt, ob, nw, wc, i1.fr (fun z a b => hf z (by omega)), i2⟩, i3, j1, i4, i5, i6, (hf _ (by omega)).trans i7, h35.trans i8, h36.trans i9, sd, sm, (hf _ (by omega)).trans i10, (hf _ (by omega)).trans i11, i12⟩
theorem iN.fr (hI : iN h C e cl cs sz) (hf : h'.2 31 = h.2 31) : iN h' C e cl cs sz := by
  obtain ⟨kn, ed, S, i1, i2⟩ := hI
  exact ⟨kn, ed, S, hf.trans i1, i2⟩
theorem iE.fr (hI : iE h s pc sz pk) (hf : ∀ z, z = 32 ∨ z = 33 → h'.2 z = h.2 z) (ht : ∀ i, 45 ≤ i → i ≤ 48 → t i = s i) : iE h' t pc sz pk := by
  obtain ⟨ac, S, ag, i1, i2, i3, i4, i5⟩ := hI
  refine ⟨ac, S, ag, (hf _ (by omega)).trans i1, (hf _ (by omega)).trans i2, i3, ?_, ?_⟩
  · rw [ht 45 (by omega) (by omega), ht 46 (by omega) (by omega), ht 47 (by omega) (by omega), ht 48 (by omega) (by omega)]; exact i4
  · unfold heB
    rw [ht 45 (by omega) (by omega), ht 46 (by omega) (by omega), ht 47 (by omega) (by omega), ht 48 (by omega) (by omega)]; exact i5
theorem iS.fr (hI : iS h s C e) (hf : ∀ z, (34 ≤ z ∧ z ≤ 41) ∨ (85 ≤ z ∧ z ≤ 90) → h'.2 z = h.2 z) (h52 : t 52 = s 52) : iS h' t C e := by
  obtain ⟨sz, kn, ed, T, wl, ws, wn, G, WS, WM, SW, i1, i2, i3, i4, i5, i6, i7, i8, i9, i10, i11, i12, i13, i14, i15, ⟨a1, i16⟩, ⟨a2, i17⟩, ⟨a3, i18⟩, i19, i20, i21⟩ := hI
  exact ⟨sz, kn, ed, T, wl, ws, wn, G, WS, WM, SW, (hf _ (by omega)).trans i1, i2.fr (fun z a b => hf z (by omega)), i3, (hf _ (by omega)).trans i4, (hf _ (by omega)).trans i5, (hf _ (by omega)).trans i6, (hf _ (by omega)).trans i7, i8, i9, i10, i11, i12, (hf _ (by omega)).trans i13, (hf _ (by omega)).trans i14, (hf _ (by omega)).trans i15, ⟨a1, (hf _ (by omega)).trans i16⟩, ⟨a2, (hf _ (by omega)).trans i17⟩, ⟨a3, (hf _ (by omega)).trans i18⟩, h52.trans i19, i20, i21⟩
theorem Inv.fr {n : Nat} (hI : Inv n h) (hf : ∀ z, 1 ≤ z → z ≤ 90 → h'.2 z = h.2 z) : Inv n h' := by
  obtain ⟨s, C, e, sp, pc, sz, cl, cs, pk, pm, h72, h1, he, hC, hH, hT, hL, hX, hG, hN, hE, hS⟩ := hI
  exact ⟨s, C, e, sp, pc, sz, cl, cs, pk, pm, (hf _ (by omega) (by omega)).trans h72, (hf _ (by omega) (by omega)).trans h1, he, hC.fr (fun z a => hf z (by omega) (by omega)) rfl, hH.fr (fun z a => hf z (by omega) (by omega)) rfl, hT.fr (fun z a => hf z (by omega) (by omega)) rfl, hL.fr (fun z a => hf z (by omega) (by omega)) rfl rfl, hX.fr (fun z a => hf z (by omega) (by omega)), hG.fr (fun z a => hf z (by omega) (by omega)) rfl rfl, hN.fr (hf _ (by omega) (by omega)), hE.fr (fun z a => hf z (by omega) (by omega)) (fun i _ _ => rfl), hS.fr (fun z a => hf z (by omega) (by omega)) rfl⟩
end Inv96
/-- how the reference ends: what it answers, whether it would throw, and both stand alike again -/
def FinT (n : Nat) (code a : Int) (h0 : PH) : PO → PH → Prop := fun o h => ∃ (b : Int) (s : F_), o = rI b ∧ h.2 57 = some (mO s) ∧ s 0 = code ∧ (code = 0 → b = a) ∧ Inv n h ∧ h.2 0 = h0.2 0 ∧ h.2 91 = h0.2 91
def cdE (cs : List (Int × Nat)) (o : PO) (code a : Int) : Prop := (code = 0 ∧ o = rI a) ∨ ∃ E, (code, E) ∈ cs ∧ o = .inr (k_E E)
/-- one call of the desk and the same call of the reference -/
def StpC (K N : Nat) (mA mB : PM) (as : List PV) (cs : List (Int × Nat)) (n : Nat) (h : PH) : Prop :=
  k_Ev false 22 K N mA (vR 1 :: as) h (fun o h1 => h1.2 0 = h.2 0 ∧ h1.2 91 = h.2 91 ∧ h1.2 57 = h.2 57 ∧ ∃ code a, cdE cs o code a ∧ ∀ g : PH, (∀ z, z ≠ 91 → g.2 z = h1.2 z) → k_Ev false 22 0 0 mB (vR 57 :: as) g (FinT n code a g))
