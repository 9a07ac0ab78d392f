/-! slots, words, the choice: both alike (written by wip/whole/gen98.py) -/
section Stp985
variable {n : Nat} {h g : PH} {s C : F_} {e : Int} {sp pc sz : Nat} {cl cs pk pm : F_}
theorem v_best (hI : InvB n h s C e sp pc sz cl cs pk pm) : StpC 0 0 mX11_best mX12_best [] [] (n + 1) h := by
  have hB := hI
  obtain ⟨h72, h1, he, vC, vH, vT, vL, vX, vG, vN, vE, vS⟩ := hI
  obtain ⟨m0, d1, d2, d3, d4, tb, d5⟩ := vC
  obtain ⟨ns, kn, ed, T, wl, ws, wn, GG, WS, WM, SW, a1, a2, a3, a4, a5, a6, a7, a8, a9, a10, a11, a12, a13, a14, a15, ⟨F0, a16⟩, ⟨ch, a17⟩, ⟨bs, a18⟩, a19, a20, a21⟩ := vS
  have hSW : ∀ i, i < 8 → 0 ≤ SW i ∧ SW i ≤ 4 := fun i hi => by rw [a20.1 i hi]; exact a8 i hi
  have hW : ∀ a, a < 32 → vld SW a → (0 ≤ WM a ∧ WM a ≤ 20) ∧ rvd WS (20 * a) (WM a) := fun a ha hv => by
    obtain ⟨q1, q2⟩ := a20.2 a ha hv
    have q3 := a3.1 a (by omega)
    have q4 : ((a % 4 : Nat) : Int) < wn (a / 4) := by rw [← a20.1 (a / 4) (by omega)]; exact hv
    have q5 := a9 (a / 4) (a % 4) (by omega) q4
    rw [show a / 4 * 4 + a % 4 = a by omega] at q5
    rw [q1]
    exact ⟨q3, fun i hi => by rw [q2 i hi]; exact q5 i hi⟩
  have hK : Kp C WS WM SW ns (chA C wl ws wn ns kn ed e T GG).1 := by
    unfold chA
    split
    · rename_i q; exact a21 q.1 q.2
    · exact Kp_M d1 d2 a8 a3 a9 a20 a10
  refine k_Evm (fun o h' p => ?_) (e_best h1 a1 a2 a3 a4 a5 a6 a7 a8 d1 a9 a10 (by decide) m0 a11)
  obtain ⟨rfl, sq, m'⟩ := p
  · generalize (chA C wl ws wn ns kn ed e T GG).2 = GG2 at sq
    generalize (chA C wl ws wn ns kn ed e T GG).1 = TT at hK sq ⊢
    refine ⟨sq.2.2.2.2.2 0 (by omega) (by decide) (by decide) (by decide) (by decide), sq.2.2.2.2.2 91 (by omega) (by decide) (by decide) (by decide) (by decide), sq.2.2.2.2.2 57 (by omega) (by decide) (by decide) (by decide) (by decide), 0, _, Or.inl ⟨rfl, rfl⟩, fun g hg => ?_⟩
    have fg : ∀ z, ((8 < z ∨ z < 2) ∧ z ≠ 34 ∧ z ≠ 39 ∧ z ≠ 40 ∧ z ≠ 41 ∧ z ≠ 91) → g.2 z = h.2 z := fun z q => (hg z q.2.2.2.2.2).trans (sq.2.2.2.2.2 z q.1 q.2.1 q.2.2.1 q.2.2.2.1 q.2.2.2.2.1)
    have k34 := (hg 34 (by decide)).trans sq.2.1
    have k39 := (hg 39 (by decide)).trans sq.2.2.1
    have k40 := (hg 40 (by decide)).trans sq.2.2.2.1
    have k41 := (hg 41 (by decide)).trans sq.2.2.2.2.1
    have hM : Md g g s C := ⟨rfl, (fg 57 (by omega)).trans h72, d4.fr (fun z a b => fg z (by omega)) rfl, ⟨tb, (fg 60 (by omega)).trans d5⟩, fun _ _ _ _ => rfl⟩
    refine k_Evm (fun o h2 p => ?_) (e_mbest hM d1 ((fg 85 (by omega)).trans a13) ((fg 86 (by omega)).trans a14) ((fg 87 (by omega)).trans a15) ((fg 88 (by omega)).trans a16) ((fg 89 (by omega)).trans a17) ((fg 90 (by omega)).trans a18) hSW hW a19 a10 (fw_sym d1 d2) (by decide))
    rcases p with ⟨c5, rfl, rfl⟩ | ⟨c5, F, h3, t, c6, c7, c8, rfl, rfl⟩
    · skip
      have fr : ∀ z, ((8 < z ∨ z < 2) ∧ z ≠ 34 ∧ z ≠ 39 ∧ z ≠ 40 ∧ z ≠ 41 ∧ z ≠ 57 ∧ z ≠ 91) → (hS g 57 (mO (mS s 0 0))).2 z = h.2 z := fun z q => (hS_n (by omega)).trans (fg z (by omega))
      have sf : ∀ z, z ≠ 57 → (hS g 57 (mO (mS s 0 0))).2 z = g.2 z := fun z q => hS_n q
      exact ⟨_, mS s 0 0, rfl, hS_s _ _ _, rfl, fun _ => (hK.1 c5).1.symm, ⟨mS s 0 0, C, e, sp, pc, sz, cl, cs, pk, pm, hS_s _ _ _, (fr 1 (by omega)).trans h1, (by omega), ⟨m'.fr (fun z a b => (sf z (by omega)).trans (hg z (by omega))), d1, d2, d3, d4.fr (fun z a b => (sf z (by omega)).trans (fg z (by omega))) rfl, tb, (sf 60 (by decide)).trans ((fg 60 (by omega)).trans d5)⟩, vH.fr (fun z a => fr z (by omega)) rfl, vT.fr (fun z a => fr z (by omega)) rfl, vL.fr (fun z a => fr z (by omega)) rfl rfl, vX.fr (fun z a => fr z (by omega)), vG.fr (fun z a => fr z (by omega)) rfl rfl, vN.fr (fr 31 (by omega)), vE.fr (fun z a => fr z (by omega)) (fun i a b => (mS_n (by omega))), ⟨ns, 1, e, TT, wl, ws, wn, GG2, WS, WM, SW, (sf 34 (by decide)).trans k34, a2.fr (fun z a b => fr z (by omega)), a3, (fr _ (by omega)).trans a4, (sf 39 (by decide)).trans k39, (sf 40 (by decide)).trans k40, (sf 41 (by decide)).trans k41, a8, a9, a10, Or.inr rfl, Int.le_refl _, (fr _ (by omega)).trans a13, (fr _ (by omega)).trans a14, (fr _ (by omega)).trans a15, ⟨F0, (fr _ (by omega)).trans a16⟩, ⟨ch, (fr _ (by omega)).trans a17⟩, ⟨bs, (fr _ (by omega)).trans a18⟩, a19, a20, fun _ _ => hK⟩⟩, sf 0 (by decide), sf 91 (by decide)⟩
    · skip
      obtain ⟨q1, q2, q3, ⟨tb2, q4⟩, q5⟩ := c6
      have fr : ∀ z, ((8 < z ∨ z < 2) ∧ z ≠ 34 ∧ z ≠ 39 ∧ z ≠ 40 ∧ z ≠ 41 ∧ z ≠ 57 ∧ z ≠ 59 ∧ z ≠ 60 ∧ z ≠ 88 ∧ z ≠ 89 ∧ z ≠ 90 ∧ z ≠ 91) → (chH h3 (flF 0 ns 0 ch) (fldM F ns SW ns 0 (flF 0 ns 0 ch) (-1, bs)).2).2 z = h.2 z := fun z q => (chH_n (by omega) (by omega)).trans ((q5 z (by omega) (by omega) (by omega)).trans ((hS_n (by omega)).trans (fg z (by omega))))
      have sf : ∀ z, (z ≠ 57 ∧ z ≠ 59 ∧ z ≠ 60 ∧ z ≠ 88 ∧ z ≠ 89 ∧ z ≠ 90) → (chH h3 (flF 0 ns 0 ch) (fldM F ns SW ns 0 (flF 0 ns 0 ch) (-1, bs)).2).2 z = g.2 z := fun z q => (chH_n (by omega) (by omega)).trans ((q5 z (by omega) (by omega) (by omega)).trans (hS_n (by omega)))
      have ft : ∀ i, (i ≠ 0 ∧ i ≠ 3) → t i = s i := fun i q => (c7 i q.2).trans (mS_n q.1)
      have k72 := (chH_n (h := h3) (ch := flF 0 ns 0 ch) (bs := (fldM F ns SW ns 0 (flF 0 ns 0 ch) (-1, bs)).2) (z := 57) (by decide) (by decide)).trans q2
      have k103 := (chH_n (h := h3) (ch := flF 0 ns 0 ch) (bs := (fldM F ns SW ns 0 (flF 0 ns 0 ch) (-1, bs)).2) (z := 88) (by decide) (by decide)).trans ((q5 88 (by decide) (by decide) (by decide)).trans (hS_s _ _ _))
      exact ⟨_, t, rfl, k72, (c7 0 (by decide)).trans mS_s, fun _ => ((hK.2 c5 F ch bs c8).1).symm, ⟨t, C, e, sp, pc, sz, cl, cs, pk, pm, k72, (fr 1 (by omega)).trans (by rw [ft 34 (by decide)]; exact h1), (by omega), ⟨m'.fr (fun z a b => (sf z (by omega)).trans (hg z (by omega))), d1, d2, d3, q3.fr (fun z a b => chH_n (by omega) (by omega)) rfl, tb2, (chH_n (by decide) (by decide)).trans q4⟩, vH.fr (fun z a => fr z (by omega)) (ft 6 (by decide)), vT.fr (fun z a => fr z (by omega)) (ft 8 (by decide)), vL.fr (fun z a => fr z (by omega)) (ft 14 (by decide)) (ft 19 (by decide)), vX.fr (fun z a => fr z (by omega)), vG.fr (fun z a => fr z (by omega)) (ft 35 (by decide)) (ft 36 (by decide)), vN.fr (fr 31 (by omega)), vE.fr (fun z a => fr z (by omega)) (fun i a b => ft i (by omega)), ⟨ns, 1, e, TT, wl, ws, wn, GG2, WS, WM, SW, (sf 34 (by decide)).trans k34, a2.fr (fun z a b => fr z (by omega)), a3, (fr _ (by omega)).trans a4, (sf 39 (by decide)).trans k39, (sf 40 (by decide)).trans k40, (sf 41 (by decide)).trans k41, a8, a9, a10, Or.inr rfl, Int.le_refl _, (fr _ (by omega)).trans a13, (fr _ (by omega)).trans a14, (fr _ (by omega)).trans a15, ⟨F, k103⟩, ⟨_, chH_104⟩, ⟨_, chH_105⟩, (ft 52 (by decide)).trans a19, a20, fun _ _ => hK⟩⟩, sf 0 (by decide), sf 91 (by decide)⟩
theorem v_chosen (hI : InvB n h s C e sp pc sz cl cs pk pm) (k : Int) : StpC 1 6 mX11_chosen mX12_chosen [vI k] [(1, 2)] (n + 1) h := by
  have hB := hI
  obtain ⟨h72, h1, he, vC, vH, vT, vL, vX, vG, vN, vE, vS⟩ := hI
  obtain ⟨m0, d1, d2, d3, d4, tb, d5⟩ := vC
  obtain ⟨ns, kn, ed, T, wl, ws, wn, GG, WS, WM, SW, a1, a2, a3, a4, a5, a6, a7, a8, a9, a10, a11, a12, a13, a14, a15, ⟨F0, a16⟩, ⟨ch, a17⟩, ⟨bs, a18⟩, a19, a20, a21⟩ := vS
  have hSW : ∀ i, i < 8 → 0 ≤ SW i ∧ SW i ≤ 4 := fun i hi => by rw [a20.1 i hi]; exact a8 i hi
  have hW : ∀ a, a < 32 → vld SW a → (0 ≤ WM a ∧ WM a ≤ 20) ∧ rvd WS (20 * a) (WM a) := fun a ha hv => by
    obtain ⟨q1, q2⟩ := a20.2 a ha hv
    have q3 := a3.1 a (by omega)
    have q4 : ((a % 4 : Nat) : Int) < wn (a / 4) := by rw [← a20.1 (a / 4) (by omega)]; exact hv
    have q5 := a9 (a / 4) (a % 4) (by omega) q4
    rw [show a / 4 * 4 + a % 4 = a by omega] at q5
    rw [q1]
    exact ⟨q3, fun i hi => by rw [q2 i hi]; exact q5 i hi⟩
  have hK : Kp C WS WM SW ns (chA C wl ws wn ns kn ed e T GG).1 := by
    unfold chA
    split
    · rename_i q; exact a21 q.1 q.2
    · exact Kp_M d1 d2 a8 a3 a9 a20 a10
  refine e_chosen h1 a1 a2 a3 a4 a5 a6 a7 a8 d1 a9 a10 (by decide) m0 a11 (fun c => ?_) (fun c h' sq m' => ?_)
  · refine ⟨rfl, rfl, rfl, 1, 0, Or.inr ⟨2, by decide, rfl⟩, fun g hg => ?_⟩
    have fg : ∀ z, z ≠ 91 → g.2 z = h.2 z := hg
    have hM : Md g g s C := ⟨rfl, (fg 57 (by omega)).trans h72, d4.fr (fun z a b => fg z (by omega)) rfl, ⟨tb, (fg 60 (by omega)).trans d5⟩, fun _ _ _ _ => rfl⟩
    exact e_mchosen (k := k) hM d1 ((fg 85 (by omega)).trans a13) ((fg 86 (by omega)).trans a14) ((fg 87 (by omega)).trans a15) ((fg 88 (by omega)).trans a16) ((fg 89 (by omega)).trans a17) ((fg 90 (by omega)).trans a18) hSW hW a19 a10 (fw_sym d1 d2) (by decide) (fun _ => fin0 hB hg (fun q => by omega)) (fun q => absurd q c) (fun q => absurd q c)
  · generalize (chA C wl ws wn ns kn ed e T GG).2 = GG2 at sq
    generalize (chA C wl ws wn ns kn ed e T GG).1 = TT at hK sq ⊢
    refine ⟨sq.2.2.2.2.2 0 (by omega) (by decide) (by decide) (by decide) (by decide), sq.2.2.2.2.2 91 (by omega) (by decide) (by decide) (by decide) (by decide), sq.2.2.2.2.2 57 (by omega) (by decide) (by decide) (by decide) (by decide), 0, _, Or.inl ⟨rfl, rfl⟩, fun g hg => ?_⟩
    have fg : ∀ z, ((8 < z ∨ z < 2) ∧ z ≠ 34 ∧ z ≠ 39 ∧ z ≠ 40 ∧ z ≠ 41 ∧ z ≠ 91) → g.2 z = h.2 z := fun z q => (hg z q.2.2.2.2.2).trans (sq.2.2.2.2.2 z q.1 q.2.1 q.2.2.1 q.2.2.2.1 q.2.2.2.2.1)
    have k34 := (hg 34 (by decide)).trans sq.2.1
    have k39 := (hg 39 (by decide)).trans sq.2.2.1
    have k40 := (hg 40 (by decide)).trans sq.2.2.2.1
    have k41 := (hg 41 (by decide)).trans sq.2.2.2.2.1
    have hM : Md g g s C := ⟨rfl, (fg 57 (by omega)).trans h72, d4.fr (fun z a b => fg z (by omega)) rfl, ⟨tb, (fg 60 (by omega)).trans d5⟩, fun _ _ _ _ => rfl⟩
    refine e_mchosen (k := k) hM d1 ((fg 85 (by omega)).trans a13) ((fg 86 (by omega)).trans a14) ((fg 87 (by omega)).trans a15) ((fg 88 (by omega)).trans a16) ((fg 89 (by omega)).trans a17) ((fg 90 (by omega)).trans a18) hSW hW a19 a10 (fw_sym d1 d2) (by decide) (fun q => absurd c q) (fun _ c5 => ?_) (fun _ c5 F h3 t c6 c7 c8 => ?_)
    · skip
      have fr : ∀ z, ((8 < z ∨ z < 2) ∧ z ≠ 34 ∧ z ≠ 39 ∧ z ≠ 40 ∧ z ≠ 41 ∧ z ≠ 57 ∧ z ≠ 91) → (hS g 57 (mO (mS s 0 0))).2 z = h.2 z := fun z q => (hS_n (by omega)).trans (fg z (by omega))
      have sf : ∀ z, z ≠ 57 → (hS g 57 (mO (mS s 0 0))).2 z = g.2 z := fun z q => hS_n q
      exact ⟨_, mS s 0 0, rfl, hS_s _ _ _, rfl, fun _ => ((hK.1 c5).2 _ (by omega)).symm, ⟨mS s 0 0, C, e, sp, pc, sz, cl, cs, pk, pm, hS_s _ _ _, (fr 1 (by omega)).trans h1, (by omega), ⟨m'.fr (fun z a b => (sf z (by omega)).trans (hg z (by omega))), d1, d2, d3, d4.fr (fun z a b => (sf z (by omega)).trans (fg z (by omega))) rfl, tb, (sf 60 (by decide)).trans ((fg 60 (by omega)).trans d5)⟩, vH.fr (fun z a => fr z (by omega)) rfl, vT.fr (fun z a => fr z (by omega)) rfl, vL.fr (fun z a => fr z (by omega)) rfl rfl, vX.fr (fun z a => fr z (by omega)), vG.fr (fun z a => fr z (by omega)) rfl rfl, vN.fr (fr 31 (by omega)), vE.fr (fun z a => fr z (by omega)) (fun i a b => (mS_n (by omega))), ⟨ns, 1, e, TT, wl, ws, wn, GG2, WS, WM, SW, (sf 34 (by decide)).trans k34, a2.fr (fun z a b => fr z (by omega)), a3, (fr _ (by omega)).trans a4, (sf 39 (by decide)).trans k39, (sf 40 (by decide)).trans k40, (sf 41 (by decide)).trans k41, a8, a9, a10, Or.inr rfl, Int.le_refl _, (fr _ (by omega)).trans a13, (fr _ (by omega)).trans a14, (fr _ (by omega)).trans a15, ⟨F0, (fr _ (by omega)).trans a16⟩, ⟨ch, (fr _ (by omega)).trans a17⟩, ⟨bs, (fr _ (by omega)).trans a18⟩, a19, a20, fun _ _ => hK⟩⟩, sf 0 (by decide), sf 91 (by decide)⟩
    · skip
      obtain ⟨q1, q2, q3, ⟨tb2, q4⟩, q5⟩ := c6
      have fr : ∀ z, ((8 < z ∨ z < 2) ∧ z ≠ 34 ∧ z ≠ 39 ∧ z ≠ 40 ∧ z ≠ 41 ∧ z ≠ 57 ∧ z ≠ 59 ∧ z ≠ 60 ∧ z ≠ 88 ∧ z ≠ 89 ∧ z ≠ 90 ∧ z ≠ 91) → (chH h3 (flF 0 ns 0 ch) (fldM F ns SW ns 0 (flF 0 ns 0 ch) (-1, bs)).2).2 z = h.2 z := fun z q => (chH_n (by omega) (by omega)).trans ((q5 z (by omega) (by omega) (by omega)).trans ((hS_n (by omega)).trans (fg z (by omega))))
      have sf : ∀ z, (z ≠ 57 ∧ z ≠ 59 ∧ z ≠ 60 ∧ z ≠ 88 ∧ z ≠ 89 ∧ z ≠ 90) → (chH h3 (flF 0 ns 0 ch) (fldM F ns SW ns 0 (flF 0 ns 0 ch) (-1, bs)).2).2 z = g.2 z := fun z q => (chH_n (by omega) (by omega)).trans ((q5 z (by omega) (by omega) (by omega)).trans (hS_n (by omega)))
      have ft : ∀ i, (i ≠ 0 ∧ i ≠ 3) → t i = s i := fun i q => (c7 i q.2).trans (mS_n q.1)
      have k72 := (chH_n (h := h3) (ch := flF 0 ns 0 ch) (bs := (fldM F ns SW ns 0 (flF 0 ns 0 ch) (-1, bs)).2) (z := 57) (by decide) (by decide)).trans q2
      have k103 := (chH_n (h := h3) (ch := flF 0 ns 0 ch) (bs := (fldM F ns SW ns 0 (flF 0 ns 0 ch) (-1, bs)).2) (z := 88) (by decide) (by decide)).trans ((q5 88 (by decide) (by decide) (by decide)).trans (hS_s _ _ _))
      exact ⟨_, t, rfl, k72, (c7 0 (by decide)).trans mS_s, fun _ => (((hK.2 c5 F ch bs c8).2 _ (by omega))).symm, ⟨t, C, e, sp, pc, sz, cl, cs, pk, pm, k72, (fr 1 (by omega)).trans (by rw [ft 34 (by decide)]; exact h1), (by omega), ⟨m'.fr (fun z a b => (sf z (by omega)).trans (hg z (by omega))), d1, d2, d3, q3.fr (fun z a b => chH_n (by omega) (by omega)) rfl, tb2, (chH_n (by decide) (by decide)).trans q4⟩, vH.fr (fun z a => fr z (by omega)) (ft 6 (by decide)), vT.fr (fun z a => fr z (by omega)) (ft 8 (by decide)), vL.fr (fun z a => fr z (by omega)) (ft 14 (by decide)) (ft 19 (by decide)), vX.fr (fun z a => fr z (by omega)), vG.fr (fun z a => fr z (by omega)) (ft 35 (by decide)) (ft 36 (by decide)), vN.fr (fr 31 (by omega)), vE.fr (fun z a => fr z (by omega)) (fun i a b => ft i (by omega)), ⟨ns, 1, e, TT, wl, ws, wn, GG2, WS, WM, SW, (sf 34 (by decide)).trans k34, a2.fr (fun z a b => fr z (by omega)), a3, (fr _ (by omega)).trans a4, (sf 39 (by decide)).trans k39, (sf 40 (by decide)).trans k40, (sf 41 (by decide)).trans k41, a8, a9, a10, Or.inr rfl, Int.le_refl _, (fr _ (by omega)).trans a13, (fr _ (by omega)).trans a14, (fr _ (by omega)).trans a15, ⟨F, k103⟩, ⟨_, chH_104⟩, ⟨_, chH_105⟩, (ft 52 (by decide)).trans a19, a20, fun _ _ => hK⟩⟩, sf 0 (by decide), sf 91 (by decide)⟩
theorem wn_set {wn : F_} {kk : Nat} (h : ∀ s : Nat, s < 8 → 0 ≤ wn s ∧ wn s ≤ 4) (h0 : 0 ≤ wn kk ∧ wn kk ≤ 4) (hlt : wn kk < 4) : ∀ s : Nat, s < 8 → 0 ≤ fS wn kk (wn kk + 1) s ∧ fS wn kk (wn kk + 1) s ≤ 4 := by
  intro s hs
  by_cases q : s = kk
  · rw [q, fS_s]; omega
  · rw [fS_n q]; exact h s hs
theorem slW_new {wl ws wn WS WM SW sd sf' : F_} {kk m : Nat} (hw : slW wl ws wn WS WM SW) (hk : kk < 8) (hwn : ∀ s : Nat, s < 8 → 0 ≤ wn s ∧ wn s ≤ 4) (hlt : wn kk < 4) (hm : m ≤ 20) (hwl : ∀ a, a < 32 → wl a ≤ 20) (hs : ∀ i, i < m → sd i = sf' i) :
    slW (fS wl (4 * kk + (wn kk).toNat) m) (va_cpy sf' ws 0 ((4 * kk + (wn kk).toNat) * 20) m) (fS wn kk (wn kk + 1)) (va_cpy sd WS 0 (20 * (4 * kk + (wn kk).toNat)) m) (fS WM (4 * kk + (wn kk).toNat) m) (fS SW kk (wn kk + 1)) := by
  have h0 := hwn kk hk
  refine ⟨fun i hi => ?_, fun a ha hv => ?_⟩
  · by_cases q : i = kk
    · subst q; rw [fS_s, fS_s]
    · rw [fS_n q, fS_n q]; exact hw.1 i hi
  · by_cases q : a = 4 * kk + (wn kk).toNat
    · rw [q, fS_s, fS_s]
      refine ⟨rfl, fun i hi => ?_⟩
      rw [tl_K (by omega), Nat.mul_comm (4 * kk + (wn kk).toNat) 20, tl_K (by omega)]
      exact hs i (by omega)
    · have hv2 : vld SW a := by
        have hv : ((a % 4 : Nat) : Int) < fS SW kk (wn kk + 1) (a / 4) := hv
        show ((a % 4 : Nat) : Int) < SW (a / 4)
        by_cases q2 : a / 4 = kk
        · rw [q2, fS_s] at hv
          rw [q2, hw.1 kk hk]
          omega
        · rw [fS_n q2] at hv; exact hv
      obtain ⟨w1, w2⟩ := hw.2 a ha hv2
      have w3 := hwl a ha
      rw [fS_n q, fS_n q]
      refine ⟨w1, fun i hi => ?_⟩
      rw [tl_L hm q (by omega), w2 i hi, Nat.mul_comm a 20, Nat.mul_comm (4 * kk + (wn kk).toNat) 20, tl_L hm q (by omega)]
theorem slW_v {wl ws wn sf' : F_} {kk m : Nat} (hk : kk < 8) (hwn : ∀ s : Nat, s < 8 → 0 ≤ wn s ∧ wn s ≤ 4) (hlt : wn kk < 4) (hm : m ≤ 20) (hwl : ∀ a, a < 32 → wl a ≤ 20) (hv : ∀ s w : Nat, s < 8 → (w : Int) < wn s → rvd ws ((s * 4 + w) * 20) (wl (s * 4 + w))) (hs : rvd sf' 0 m) :
    ∀ s w : Nat, s < 8 → (w : Int) < fS wn kk (wn kk + 1) s → rvd (va_cpy sf' ws 0 ((4 * kk + (wn kk).toNat) * 20) m) ((s * 4 + w) * 20) (fS wl (4 * kk + (wn kk).toNat) m (s * 4 + w)) := by
  intro s w h8 hw i hi
  have h0 := hwn kk hk
  have h1 := hwn s h8
  by_cases q : s * 4 + w = 4 * kk + (wn kk).toNat
  · rw [q] at hi ⊢
    rw [fS_s] at hi
    rw [Nat.mul_comm (4 * kk + (wn kk).toNat) 20, tl_K (by omega)]
    have := hs i (by omega)
    rw [Nat.zero_add] at this
    exact this
  · rw [fS_n q] at hi
    have hw2 : (w : Int) < wn s := by
      by_cases q2 : s = kk
      · subst q2; rw [fS_s] at hw; omega
      · rw [fS_n q2] at hw; exact hw
    have h2 := hwl (s * 4 + w) (by omega)
    have h3 := hv s w h8 hw2 i hi
    rw [Nat.mul_comm (s * 4 + w) 20] at h3 ⊢
    rw [Nat.mul_comm (4 * kk + (wn kk).toNat) 20, tl_L hm q (by omega)]
    exact h3
theorem v_word (hI : InvB n h s C e sp pc sz cl cs pk pm) (k z : Int) : StpC 3 18 mX11_word mX12_word [vI k, vI z] [(1, 2), (2, 0), (3, 1)] (n + 1) h := by
  have hB := hI
  obtain ⟨h72, h1, he, vC, vH, vT, vL, vX, vG, vN, vE, vS⟩ := hI
  obtain ⟨nt, f, gg, t1, t2, t3, t4, t5, t6⟩ := vT
  obtain ⟨R, E, lf2, sf2, l1, l2, l3, l4, l5, l6, l7, l8, l9, l10, l11⟩ := vL
  obtain ⟨ns, kn, ed, T, wl, ws, wn, GG, WS, WM, SW, a1, a2, a3, a4, a5, a6, a7, a8, a9, a10, a11, a12, a13, a14, a15, ⟨F0, a16⟩, ⟨ch, a17⟩, ⟨bs, a18⟩, a19, a20, a21⟩ := vS
  have vL := hB.2.2.2.2.2.2.1
  have vX := hB.2.2.2.2.2.2.2.1
  have hSW : ∀ i, i < 8 → 0 ≤ SW i ∧ SW i ≤ 4 := fun i hi => by rw [a20.1 i hi]; exact a8 i hi
  have hML : ∀ g : PH, (∀ z, 62 ≤ z → z ≤ 71 → g.2 z = h.2 z) → MLx g s gg R E := fun g hg => ⟨(hg 62 (by omega) (by omega)).trans t3, l11.fr (fun z a b => hg z (by omega) (by omega)) (by obtain ⟨q, q1⟩ := l11.1; exact ⟨q, (hg 71 (by omega) (by omega)).trans q1⟩) rfl rfl⟩
  refine e_word h1 t1 t2 ⟨l1, l2, l3, t1.2, l4⟩ l8 l5 l6 l7 a1 a2 a3 a4 a8 a10 (by decide) (fun c => ?_) (fun c c2 => ?_) (fun c c2 c3 => ?_) (fun c c2 c3 c4 => ?_) (fun c c2 c3 c4 c5 => ?_) (fun c c2 c3 c4 c5 => ?_)
  · refine ⟨rfl, rfl, rfl, 1, 0, Or.inr ⟨2, by decide, rfl⟩, fun g fg => ?_⟩
    exact e_mword (k := k) (z := z) (lf := lf2) (sf := sf2) ((fg 57 (by omega)).trans h72) (hML g (fun z a b => fg z (by omega))) ((fg 85 (by omega)).trans a13) ((fg 86 (by omega)).trans a14) ((fg 87 (by omega)).trans a15) hSW (by omega) t5 l8 (by omega) (by decide) (fun _ => fin0 hB fg (fun q => by omega)) (fun q => absurd q (by rw [a19]; exact c)) (fun q => absurd q (by rw [a19]; exact c)) (fun q => absurd q (by rw [a19]; exact c)) (fun q => absurd q (by rw [a19]; exact c)) (fun q => absurd q (by rw [a19]; exact c))
  · refine ⟨rfl, rfl, rfl, 2, 0, Or.inr ⟨0, by decide, rfl⟩, fun g fg => ?_⟩
    exact e_mword (k := k) (z := z) (lf := lf2) (sf := sf2) ((fg 57 (by omega)).trans h72) (hML g (fun z a b => fg z (by omega))) ((fg 85 (by omega)).trans a13) ((fg 86 (by omega)).trans a14) ((fg 87 (by omega)).trans a15) hSW (by omega) t5 l8 (by omega) (by decide) (fun q => absurd (by rw [a19]; exact c) q) (fun _ _ => fin0 hB fg (fun q => by omega)) (fun _ q => absurd q (by rw [t4]; exact c2)) (fun _ q => absurd q (by rw [t4]; exact c2)) (fun _ q => absurd q (by rw [t4]; exact c2)) (fun _ q => absurd q (by rw [t4]; exact c2))
  · have eSW : SW k.toNat = wn k.toNat := a20.1 _ (by omega)
    refine ⟨rfl, rfl, rfl, 3, 0, Or.inr ⟨1, by decide, rfl⟩, fun g fg => ?_⟩
    exact e_mword (k := k) (z := z) (lf := lf2) (sf := sf2) ((fg 57 (by omega)).trans h72) (hML g (fun z a b => fg z (by omega))) ((fg 85 (by omega)).trans a13) ((fg 86 (by omega)).trans a14) ((fg 87 (by omega)).trans a15) hSW (by omega) t5 l8 (by omega) (by decide) (fun q => absurd (by rw [a19]; exact c) q) (fun _ q => absurd (by rw [t4]; exact c2) q) (fun _ _ _ => fin0 hB fg (fun q => by omega)) (fun _ _ q => by rw [eSW] at q; omega) (fun _ _ q => by rw [eSW] at q; omega) (fun _ _ q => by rw [eSW] at q; omega)
  · have eSW : SW k.toNat = wn k.toNat := a20.1 _ (by omega)
    have c4' : ¬ mSp gg z 10 := fun q => c4 ((sp_M t5 t6 t2 c2).mpr q)
    refine ⟨hS_n (by decide), hS_n (by decide), hS_n (by decide), 0, _, Or.inl ⟨rfl, rfl⟩, fun g hg => ?_⟩
    have fg : ∀ z, (z ≠ 12 ∧ z ≠ 91) → g.2 z = h.2 z := fun z q => (hg z q.2).trans (hS_n q.1)
    refine e_mword (k := k) (z := z) (lf := lf2) (sf := sf2) ((fg 57 (by omega)).trans h72) (hML g (fun z a b => fg z (by omega))) ((fg 85 (by omega)).trans a13) ((fg 86 (by omega)).trans a14) ((fg 87 (by omega)).trans a15) hSW (by omega) t5 l8 (by omega) (by decide) (fun q => absurd (by rw [a19]; exact c) q) (fun _ q => absurd (by rw [t4]; exact c2) q) (fun _ _ q => by rw [eSW] at q; omega) (fun _ _ _ _ => ?_) (fun _ _ _ q => absurd q c4') (fun _ _ _ q => absurd q c4')
    have fr : ∀ z', (z' ≠ 12 ∧ z' ≠ 57 ∧ z' ≠ 91) → (hS g 57 (mO (mwS s z))).2 z' = h.2 z' := fun z' q => (hS_n q.2.1).trans (fg z' (by omega))
    have f12 : (hS g 57 (mO (mwS s z))).2 12 = some (cO 10 [vR 13, vI (0 : Nat)]) := (hS_n (by decide)).trans ((hg 12 (by decide)).trans (hS_s _ _ _))
    have vS := hB.2.2.2.2.2.2.2.2.2.2.2
    exact ⟨_, mwS s z, rfl, hS_s _ _ _, rfl, fun _ => rfl, ⟨mwS s z, C, e, sp, pc, sz, cl, cs, pk, pm, hS_s _ _ _, (fr 1 (by omega)).trans h1, (by omega), vC.fr (fun z a => fr z (by omega)) rfl, vH.fr (fun z a => fr z (by omega)) rfl, ⟨0, f, gg, ⟨f12, (fr 13 (by omega)).trans t1.2⟩, by omega, (fr 62 (by omega)).trans t3, rfl, t5, fun k hk => by omega⟩, vL.fr (fun z a => fr z (by omega)) rfl rfl, vX.fr (fun z a => fr z (by omega)), vG.fr (fun z a => fr z (by omega)) rfl rfl, vN.fr (fr 31 (by omega)), vE.fr (fun z a => fr z (by omega)) (fun i a b => (mS_n (by omega)).trans ((mS_n (by omega)).trans ((mS_n (by omega))))), vS.fr (fun z a => fr z (by omega)) rfl⟩, hS_n (by decide), hS_n (by decide)⟩
  · have eSW : SW k.toNat = wn k.toNat := a20.1 _ (by omega)
    have c4' : mSp gg z 10 := (sp_M t5 t6 t2 c2).mp c4
    have eR : rdE R E gg 0 z.toNat lf2 sf2 = rdE R E f 0 z.toNat lf2 sf2 := (rdE_ext (eq_M t6 (by omega) c4'.2.2)).symm
    have hb := rdE_b (f := f) (b := 0) (c := z.toNat) (lf := lf2) (sf := sf2) l8
    refine ⟨(rsH_n (by decide) (by decide)).trans (hS_n (by decide)), (rsH_n (by decide) (by decide)).trans (hS_n (by decide)), (rsH_n (by decide) (by decide)).trans (hS_n (by decide)), 0, _, Or.inl ⟨rfl, rfl⟩, fun g hg => ?_⟩
    have fg : ∀ z, (z ≠ 12 ∧ z ≠ 28 ∧ z ≠ 29 ∧ z ≠ 91) → g.2 z = h.2 z := fun z q => (hg z q.2.2.2).trans ((rsH_n q.2.1 q.2.2.1).trans (hS_n q.1))
    refine e_mword (k := k) (z := z) (lf := lf2) (sf := sf2) ((fg 57 (by omega)).trans h72) (hML g (fun z a b => fg z (by omega))) ((fg 85 (by omega)).trans a13) ((fg 86 (by omega)).trans a14) ((fg 87 (by omega)).trans a15) hSW (by omega) t5 l8 (by omega) (by decide) (fun q => absurd (by rw [a19]; exact c) q) (fun _ q => absurd (by rw [t4]; exact c2) q) (fun _ _ q => by rw [eSW] at q; omega) (fun _ _ _ q => absurd c4' q) (fun _ _ _ _ p m sd hp hT => ?_) (fun _ _ _ _ m sd hm hT => ?_)
    · rw [eR] at hT
      have fr : ∀ z', (z' ≠ 12 ∧ z' ≠ 28 ∧ z' ≠ 29 ∧ z' ≠ 57 ∧ z' ≠ 71 ∧ z' ≠ 91) → (rdH g (mwS s z) sd m).2 z' = h.2 z' := fun z' q => (rdH_n q.2.2.2.2.1 q.2.2.2.1).trans (fg z' (by omega))
      have f12 : (rdH g (mwS s z) sd m).2 12 = some (cO 10 [vR 13, vI (0 : Nat)]) := (rdH_n (by decide) (by decide)).trans ((hg 12 (by decide)).trans ((rsH_n (by decide) (by decide)).trans (hS_s _ _ _)))
      have f28 : (rdH g (mwS s z) sd m).2 28 = some (cI 1 (rdE R E f 0 z.toNat lf2 sf2).2.1) := (rdH_n (by decide) (by decide)).trans ((hg 28 (by decide)).trans (hS_s _ _ _))
      have f29 : (rdH g (mwS s z) sd m).2 29 = some (cI 20 (rdE R E f 0 z.toNat lf2 sf2).2.2) := (rdH_n (by decide) (by decide)).trans ((hg 29 (by decide)).trans ((hS_n (by decide)).trans (hS_s _ _ _)))
      have vS := hB.2.2.2.2.2.2.2.2.2.2.2
      exact ⟨_, mS (mwS s z) 21 m, rfl, rdH_72, rfl, fun _ => hT.symm, ⟨mS (mwS s z) 21 m, C, e, sp, pc, sz, cl, cs, pk, pm, rdH_72, (fr 1 (by omega)).trans h1, (by omega), vC.fr (fun z a => fr z (by omega)) rfl, vH.fr (fun z a => fr z (by omega)) rfl, ⟨0, f, gg, ⟨f12, (fr 13 (by omega)).trans t1.2⟩, by omega, (fr 62 (by omega)).trans t3, rfl, t5, fun k hk => by omega⟩, vL.fr2 (fun z a => fr z (by omega)) ⟨sd, rdH_86⟩ ⟨_, _, f28, f29, hb⟩ rfl rfl, vX.fr86 (fun z a => fr z (by omega)) ⟨sd, rdH_86⟩, vG.fr (fun z a => fr z (by omega)) rfl rfl, vN.fr (fr 31 (by omega)), vE.fr (fun z a => fr z (by omega)) (fun i a b => (mS_n (by omega)).trans ((mS_n (by omega)).trans ((mS_n (by omega)).trans ((mS_n (by omega)))))), vS.fr (fun z a => fr z (by omega)) rfl⟩, rdH_n (by decide) (by decide), rdH_n (by decide) (by decide)⟩
    · rw [eR] at hT; omega
  · have eSW : SW k.toNat = wn k.toNat := a20.1 _ (by omega)
    have c4' : mSp gg z 10 := (sp_M t5 t6 t2 c2).mp c4
    have eR : rdE R E gg 0 z.toNat lf2 sf2 = rdE R E f 0 z.toNat lf2 sf2 := (rdE_ext (eq_M t6 (by omega) c4'.2.2)).symm
    have hb := rdE_b (f := f) (b := 0) (c := z.toNat) (lf := lf2) (sf := sf2) l8
    have hv := rd_v (f := f) (b := 0) (c := z.toNat) (lf := lf2) (sf := sf2) l8 l9 l10
    have cf : ∀ z', (z' ≠ 12 ∧ z' ≠ 28 ∧ z' ≠ 29 ∧ z' ≠ 34 ∧ z' ≠ 36 ∧ z' ≠ 37 ∧ z' ≠ 38) → (swH (rsH (tpZ h) 27 (rdE R E f 0 z.toNat lf2 sf2).2.1 (rdE R E f 0 z.toNat lf2 sf2).2.2) 34 ns T.1 ed wl ws wn (rdE R E f 0 z.toNat lf2 sf2).2.1 (rdE R E f 0 z.toNat lf2 sf2).2.2 k.toNat).2 z' = h.2 z' := fun z' q => by
      unfold swH
      exact (hS_n (by omega)).trans ((hS_n (by omega)).trans ((hS_n (by omega)).trans ((hS_n (by omega)).trans ((rsH_n (by omega) (by omega)).trans (hS_n (by omega))))))
    have d12 : (swH (rsH (tpZ h) 27 (rdE R E f 0 z.toNat lf2 sf2).2.1 (rdE R E f 0 z.toNat lf2 sf2).2.2) 34 ns T.1 ed wl ws wn (rdE R E f 0 z.toNat lf2 sf2).2.1 (rdE R E f 0 z.toNat lf2 sf2).2.2 k.toNat).2 12 = some (cO 10 [vR 13, vI (0 : Nat)]) := by
      unfold swH
      exact (hS_n (by decide)).trans ((hS_n (by decide)).trans ((hS_n (by decide)).trans ((hS_n (by decide)).trans ((rsH_n (by decide) (by decide)).trans (hS_s _ _ _)))))
    have d28 : (swH (rsH (tpZ h) 27 (rdE R E f 0 z.toNat lf2 sf2).2.1 (rdE R E f 0 z.toNat lf2 sf2).2.2) 34 ns T.1 ed wl ws wn (rdE R E f 0 z.toNat lf2 sf2).2.1 (rdE R E f 0 z.toNat lf2 sf2).2.2 k.toNat).2 28 = some (cI 1 (rdE R E f 0 z.toNat lf2 sf2).2.1) := by
      unfold swH
      exact (hS_n (by decide)).trans ((hS_n (by decide)).trans ((hS_n (by decide)).trans ((hS_n (by decide)).trans (hS_s _ _ _))))
    have d29 : (swH (rsH (tpZ h) 27 (rdE R E f 0 z.toNat lf2 sf2).2.1 (rdE R E f 0 z.toNat lf2 sf2).2.2) 34 ns T.1 ed wl ws wn (rdE R E f 0 z.toNat lf2 sf2).2.1 (rdE R E f 0 z.toNat lf2 sf2).2.2 k.toNat).2 29 = some (cI 20 (rdE R E f 0 z.toNat lf2 sf2).2.2) := by
      unfold swH
      exact (hS_n (by decide)).trans ((hS_n (by decide)).trans ((hS_n (by decide)).trans ((hS_n (by decide)).trans ((hS_n (by decide)).trans (hS_s _ _ _)))))
    refine ⟨cf 0 (by decide), cf 91 (by decide), cf 57 (by decide), 0, _, Or.inl ⟨rfl, rfl⟩, fun g hg => ?_⟩
    have fg : ∀ z, (z ≠ 12 ∧ z ≠ 28 ∧ z ≠ 29 ∧ z ≠ 34 ∧ z ≠ 36 ∧ z ≠ 37 ∧ z ≠ 38 ∧ z ≠ 91) → g.2 z = h.2 z := fun z q => (hg z (by omega)).trans (cf z (by omega))
    have k34 : g.2 34 = some (slO 34 ns T.1 0 ed) := (hg 34 (by decide)).trans (by unfold swH; exact hS_s _ _ _)
    have k38 : g.2 38 = some (cI 8 (fS wn k.toNat (wn k.toNat + 1))) := (hg 38 (by decide)).trans (by unfold swH; exact (hS_n (by decide)).trans (hS_s _ _ _))
    have k36 : g.2 36 = some (cI 32 (fS wl (4 * k.toNat + (wn k.toNat).toNat) (jn 20 0 ((rdE R E f 0 z.toNat lf2 sf2).2.1 0)))) := (hg 36 (by decide)).trans (by unfold swH; exact (hS_n (by decide)).trans ((hS_n (by decide)).trans (hS_s _ _ _)))
    have k37 : g.2 37 = some (cI (32 * 20) (va_cpy (rdE R E f 0 z.toNat lf2 sf2).2.2 ws (0 * 20) ((4 * k.toNat + (wn k.toNat).toNat) * 20) (jn 20 0 ((rdE R E f 0 z.toNat lf2 sf2).2.1 0)).toNat)) := (hg 37 (by decide)).trans (by unfold swH; exact (hS_n (by decide)).trans ((hS_n (by decide)).trans ((hS_n (by decide)).trans (hS_s _ _ _))))
    refine e_mword (k := k) (z := z) (lf := lf2) (sf := sf2) ((fg 57 (by omega)).trans h72) (hML g (fun z a b => fg z (by omega))) ((fg 85 (by omega)).trans a13) ((fg 86 (by omega)).trans a14) ((fg 87 (by omega)).trans a15) hSW (by omega) t5 l8 (by omega) (by decide) (fun q => absurd (by rw [a19]; exact c) q) (fun _ q => absurd (by rw [t4]; exact c2) q) (fun _ _ q => by rw [eSW] at q; omega) (fun _ _ _ q => absurd c4' q) (fun _ _ _ _ p m sd hp hT => ?_) (fun _ _ _ _ m sd hm hT hT2 hT3 => ?_)
    · rw [eR] at hT; omega
    · rw [eR] at hT hT2 hT3
      generalize (rdE R E f 0 z.toNat lf2 sf2) = TT at *
      have ej : jn 20 0 (TT.2.1 0) = m := by unfold jn; split <;> omega
      rw [ej] at k36 k37
      rw [Int.toNat_natCast, Nat.zero_mul] at k37
      rw [eSW]
      generalize ek : k.toNat = kk at *
      have gf : ∀ z', (z' ≠ 57 ∧ z' ≠ 71 ∧ z' ≠ 85 ∧ z' ≠ 86 ∧ z' ≠ 87) → (hS (hS (hS (rdH g (mwS s z) sd m) 85 (cI 640 (va_cpy sd WS 0 (20 * (4 * kk + (wn kk).toNat)) m))) 86 (cI 32 (fS WM (4 * kk + (wn kk).toNat) m))) 87 (cI 8 (fS SW kk (wn kk + 1)))).2 z' = g.2 z' := fun z' q => (hS_n (by omega)).trans ((hS_n (by omega)).trans ((hS_n (by omega)).trans (rdH_n (by omega) (by omega))))
      have fr : ∀ z', (z' ≠ 12 ∧ z' ≠ 28 ∧ z' ≠ 29 ∧ z' ≠ 34 ∧ z' ≠ 36 ∧ z' ≠ 37 ∧ z' ≠ 38 ∧ z' ≠ 57 ∧ z' ≠ 71 ∧ z' ≠ 85 ∧ z' ≠ 86 ∧ z' ≠ 87 ∧ z' ≠ 91) → (hS (hS (hS (rdH g (mwS s z) sd m) 85 (cI 640 (va_cpy sd WS 0 (20 * (4 * kk + (wn kk).toNat)) m))) 86 (cI 32 (fS WM (4 * kk + (wn kk).toNat) m))) 87 (cI 8 (fS SW kk (wn kk + 1)))).2 z' = h.2 z' := fun z' q => (gf z' (by omega)).trans (fg z' (by omega))
      have f86 : ∃ a, (hS (hS (hS (rdH g (mwS s z) sd m) 85 (cI 640 (va_cpy sd WS 0 (20 * (4 * kk + (wn kk).toNat)) m))) 86 (cI 32 (fS WM (4 * kk + (wn kk).toNat) m))) 87 (cI 8 (fS SW kk (wn kk + 1)))).2 71 = some (cI 40 a) := ⟨sd, (hS_n (by decide)).trans ((hS_n (by decide)).trans ((hS_n (by decide)).trans rdH_86))⟩
      have f72 : (hS (hS (hS (rdH g (mwS s z) sd m) 85 (cI 640 (va_cpy sd WS 0 (20 * (4 * kk + (wn kk).toNat)) m))) 86 (cI 32 (fS WM (4 * kk + (wn kk).toNat) m))) 87 (cI 8 (fS SW kk (wn kk + 1)))).2 57 = some (mO (mS (mwS s z) 21 m)) := (hS_n (by decide)).trans ((hS_n (by decide)).trans ((hS_n (by decide)).trans rdH_72))
      have hwl : ∀ a, a < 32 → wl a ≤ 20 := fun a ha => (a3.1 a ha).2
      have w8 := a8 kk (by omega)
      exact ⟨_, mS (mwS s z) 21 m, rfl, f72, rfl, fun _ => rfl, ⟨mS (mwS s z) 21 m, C, e, sp, pc, sz, cl, cs, pk, pm, f72, (fr 1 (by omega)).trans h1, (by omega), vC.fr (fun z a => fr z (by omega)) rfl, vH.fr (fun z a => fr z (by omega)) rfl, ⟨0, f, gg, ⟨(gf 12 (by decide)).trans ((hg 12 (by decide)).trans d12), (fr 13 (by omega)).trans t1.2⟩, by omega, (fr 62 (by omega)).trans t3, rfl, t5, fun k hk => by omega⟩, vL.fr2 (fun z a => fr z (by omega)) f86 ⟨_, _, (gf 28 (by decide)).trans ((hg 28 (by decide)).trans d28), (gf 29 (by decide)).trans ((hg 29 (by decide)).trans d29), hb⟩ rfl rfl, vX.fr86 (fun z a => fr z (by omega)) f86, vG.fr (fun z a => fr z (by omega)) rfl rfl, vN.fr (fr 31 (by omega)), vE.fr (fun z a => fr z (by omega)) (fun i a b => (mS_n (by omega)).trans ((mS_n (by omega)).trans ((mS_n (by omega)).trans ((mS_n (by omega)))))), ⟨ns, 0, ed, T, fS wl (4 * kk + (wn kk).toNat) m, va_cpy TT.2.2 ws 0 ((4 * kk + (wn kk).toNat) * 20) m, fS wn kk (wn kk + 1), GG, va_cpy sd WS 0 (20 * (4 * kk + (wn kk).toNat)) m, fS WM (4 * kk + (wn kk).toNat) m, fS SW kk (wn kk + 1), (gf 34 (by decide)).trans k34, ⟨(fr 35 (by omega)).trans a2.1, (gf 36 (by decide)).trans k36, (gf 37 (by decide)).trans k37⟩, a3.set (by omega) (by omega), (gf 38 (by decide)).trans k38, (fr _ (by omega)).trans a5, (fr _ (by omega)).trans a6, (fr _ (by omega)).trans a7, wn_set a8 w8 c3, slW_v (by omega) a8 c3 (by omega) hwl a9 (fun i hi => hv i (by omega)), a10, Or.inl rfl, a12, (hS_n (by decide)).trans ((hS_n (by decide)).trans (hS_s _ _ _)), (hS_n (by decide)).trans (hS_s _ _ _), hS_s _ _ _, ⟨F0, (fr _ (by omega)).trans a16⟩, ⟨ch, (fr _ (by omega)).trans a17⟩, ⟨bs, (fr _ (by omega)).trans a18⟩, a19, slW_new a20 (by omega) a8 c3 (by omega) hwl (fun i hi => hT3 i hi), fun q => by omega⟩⟩, gf 0 (by decide), gf 91 (by decide)⟩
end Stp985
