/-! one call of the desk and the same call of the reference: those that change little (written by wip/whole/gen98.py) -/
section Stp981
variable {n : Nat} {h g : PH} {s C : F_} {e : Int} {sp pc sz : Nat} {cl cs pk pm : F_}
theorem fin0 {code a b : Int} (hI : InvB n h s C e sp pc sz cl cs pk pm) (hg : ∀ z, z ≠ 91 → g.2 z = h.2 z) (hab : code = 0 → b = a) : FinT (n + 1) code a g (rI b) (hS g 57 (mO (mS s 0 code))) := by
  obtain ⟨h72, h1, he, vC, vH, vT, vL, vX, vG, vN, vE, vS⟩ := hI
  have fr : ∀ z, (z ≠ 57 ∧ z ≠ 91) → (hS g 57 (mO (mS s 0 code))).2 z = h.2 z := fun z q => (hS_n q.1).trans (hg z q.2)
  exact ⟨b, mS s 0 code, rfl, hS_s _ _ _, rfl, hab, ⟨mS s 0 code, C, e, sp, pc, sz, cl, cs, pk, pm, hS_s _ _ _, (fr 1 (by omega)).trans h1, (by omega), vC.fr (fun z a => fr z (by omega)) rfl, vH.fr (fun z a => fr z (by omega)) rfl, vT.fr (fun z a => fr z (by omega)) rfl, vL.fr (fun z a => fr z (by omega)) rfl rfl, vX.fr (fun z a => fr z (by omega)), vG.fr (fun z a => fr z (by omega)) rfl rfl, vN.fr (fr 31 (by omega)), vE.fr (fun z a => fr z (by omega)) (fun i a b => (mS_n (by omega))), vS.fr (fun z a => fr z (by omega)) rfl⟩, hS_n (by decide), hS_n (by decide)⟩
theorem v_drop (hI : InvB n h s C e sp pc sz cl cs pk pm) : StpC 0 0 mX11_drop mX12_drop [] [] (n + 1) h := by
  have hB := hI
  obtain ⟨h72, h1, he, vC, vH, vT, vL, vX, vG, vN, vE, vS⟩ := hI
  obtain ⟨lf, sf, hf, r1, r2, r3, r4, r5, r6⟩ := vH
  refine k_Evm (fun o h1' p => ?_) (e_drop h1 r1 (by decide))
  obtain ⟨rfl, rfl⟩ := p
  refine ⟨hS_n (by decide), hS_n (by decide), hS_n (by decide), 0, lf 0, Or.inl ⟨rfl, rfl⟩, fun g hg => ?_⟩
  refine k_Evm (fun o h2 p => ?_) (e_mdrop ((hg 57 (by decide)).trans ((hS_n (by decide)).trans h72)))
  obtain ⟨rfl, rfl⟩ := p
  have fr : ∀ z, (z ≠ 10 ∧ z ≠ 57 ∧ z ≠ 91) → (hS g 57 (mO (mS (mS s 0 0) 6 0))).2 z = h.2 z := fun z q => (hS_n q.2.1).trans ((hg z q.2.2).trans (hS_n q.1))
  have f10 : (hS g 57 (mO (mS (mS s 0 0) 6 0))).2 10 = some (cI 1 (fS lf 0 0)) := (hS_n (by decide)).trans ((hg 10 (by decide)).trans (hS_s _ _ _))
  exact ⟨s 6, mS (mS s 0 0) 6 0, rfl, hS_s _ _ _, rfl, fun _ => r5, ⟨mS (mS s 0 0) 6 0, C, e, sp, pc, sz, cl, cs, pk, pm, hS_s _ _ _, (fr 1 (by omega)).trans h1, (by omega), vC.fr (fun z a => fr z (by omega)) rfl, ⟨fS lf 0 0, sf, hf, ⟨(fr 9 (by omega)).trans r1.1, f10, (fr 11 (by omega)).trans r1.2.2⟩, r2.set (by omega) (by omega), (fun i hi => by rw [fS_s] at hi; omega), (fr 61 (by omega)).trans r4, rfl, (fun i hi => by rw [fS_s] at hi; omega)⟩, vT.fr (fun z a => fr z (by omega)) rfl, vL.fr (fun z a => fr z (by omega)) rfl rfl, vX.fr (fun z a => fr z (by omega)), vG.fr (fun z a => fr z (by omega)) rfl rfl, vN.fr (fr 31 (by omega)), vE.fr (fun z a => fr z (by omega)) (fun i a b => (mS_n (by omega)).trans ((mS_n (by omega)))), vS.fr (fun z a => fr z (by omega)) rfl⟩, hS_n (by decide), hS_n (by decide)⟩
theorem v_hand (hI : InvB n h s C e sp pc sz cl cs pk pm) (i : Int) : StpC 0 0 mX11_hand mX12_hand [vI i] [] (n + 1) h := by
  have hB := hI
  obtain ⟨h72, h1, he, vC, vH, vT, vL, vX, vG, vN, vE, vS⟩ := hI
  obtain ⟨lf, sf, hf, r1, r2, r3, r4, r5, r6⟩ := vH
  have hl := r2.1 0 (by omega)
  refine k_Evm (fun o h1' p => ?_) (e_hand h1 r1 r2 (by decide) i)
  obtain ⟨rfl, rfl⟩ := p
  refine ⟨rfl, rfl, rfl, 0, _, Or.inl ⟨rfl, rfl⟩, fun g hg => ?_⟩
  refine k_Evm (fun o h2 p => ?_) (e_mhand ((hg 57 (by decide)).trans h72) ((hg 61 (by decide)).trans r4) (by omega))
  obtain ⟨rfl, rfl⟩ := p
  refine fin0 hB hg (fun _ => ?_)
  rw [r5]
  split
  · exact r6 _ (by omega)
  · rfl
theorem v_place (hI : InvB n h s C e sp pc sz cl cs pk pm) : StpC 0 0 mX11_place mX12_place [] [] (n + 1) h := by
  have hB := hI
  obtain ⟨h72, h1, he, vC, vH, vT, vL, vX, vG, vN, vE, vS⟩ := hI
  refine k_Evm (fun o h1' p => ?_) (e_place h1)
  obtain ⟨rfl, rfl⟩ := p
  refine ⟨rfl, rfl, rfl, 0, _, Or.inl ⟨rfl, rfl⟩, fun g hg => ?_⟩
  refine k_Evm (fun o h2 p => ?_) (e_mplace ((hg 57 (by decide)).trans h72))
  obtain ⟨rfl, rfl⟩ := p
  exact fin0 hB hg (fun _ => rfl)
theorem v_count (hI : InvB n h s C e sp pc sz cl cs pk pm) (w : Int) : StpC 0 0 mX11_count mX12_count [vI w] [] (n + 1) h := by
  have hB := hI
  obtain ⟨h72, h1, he, vC, vH, vT, vL, vX, vG, vN, vE, vS⟩ := hI
  obtain ⟨lf, sf, hf, r1, r2, r3, r4, r5, r6⟩ := vH
  obtain ⟨nt, f, gg, t1, t2, t3, t4, t5, t6⟩ := vT
  obtain ⟨R, E, lf2, sf2, l1, l2, l3, l4, l5, l6, l7, l8, l9, l10, l11⟩ := vL
  obtain ⟨g0, ⟨wl, ws, wp, wq, op, oq, pt, ob, nw, wc, gr, gw⟩, g3, g4, g5, g6, g7, g8, g9, g10, g11⟩ := vG
  obtain ⟨ns, kn, ed, T, wl2, ws2, wn, GG, WS, WM, SW, a1, a2⟩ := vS
  have a19 : s 52 = ns := a2.2.2.2.2.2.2.2.2.2.2.2.2.2.2.2.2.2.1
  refine k_Evm (fun o h1' p => ?_) (e_count (w := w) h1 l2 l3 gr.1 a1 r1 t1 (by decide))
  obtain ⟨rfl, rfl⟩ := p
  refine ⟨rfl, rfl, rfl, 0, _, Or.inl ⟨rfl, rfl⟩, fun g hg => ?_⟩
  refine k_Evm (fun o h2 p => ?_) (e_mcount (w := w) ((hg 57 (by decide)).trans h72))
  obtain ⟨rfl, rfl⟩ := p
  refine fin0 hB hg (fun _ => ?_)
  rw [l11.2.1, l11.2.2.1, g9, g10, a19, r5, t4]
  rfl
set_option maxRecDepth 100000 in
set_option maxHeartbeats 4000000 in
theorem e_msound2 {x : Bool} {d : Nat} {P : PO → PH → Prop} {k i : Int} {sd sm : F_} (h1 : h.2 57 = some (mO s)) (h96 : h.2 81 = some (cI 4800 sd)) (h97 : h.2 82 = some (cI 120 sm)) (hs : s 35 ≤ 120) (hsm : ∀ k : Nat, (k : Int) < s 35 → sm k ≤ 40) (hd : 1 ≤ d)
    (c1 : ¬ (0 ≤ k ∧ k < s 35) → P (rI 0) (hS h 57 (mO (mS s 0 1)))) (c2 : 0 ≤ k ∧ k < s 35 → P (rI (if 0 ≤ i ∧ i < sm k.toNat then sd (40 * k.toNat + i.toNat) else -1)) (hS h 57 (mO (mS s 0 0)))) : k_Ev x d 0 0 mX12_sound [vR 57, vI k, vI i] h P := by
  refine k_enp 0 (Nat.le_of_ble_eq_true rfl) (p_go [] 40 ?_)
  simp only [st_0, st_1, st_2, st_3, st_4, st_5, st_6, st_7, st_8, st_9, st_10, st_11, st_12, st_13, st_14, st_15, st_16, st_17, st_18, st_19, st_20, st_21, st_22, st_23, st_24, st_25, st_26, st_27, st_28, st_29, st_30, st_31, st_32, st_33, st_34, st_34a, st_35, st_36, st_37, st_38, st_39, st_42, st_44, st_45, st_47, st_40, st_41, st_46, st_48, st_49, st_43, go_0, go_s, cut_0, cut_s, get_0, get_s, put_0, put_1, put_s, clr_0, clr_s, unl_i, unl_l, unl_r, unl_n, nth_0, nth_s, sf_0, sf_s, cnd_0, cnd_1, cnd_2, cnd_3, cnd_4, cnd_5, fit_0, fit_1, fit_2, en_0, en_i, en_l, en_r, kb_t, kb_f, kb_n, sw_0, sw_s, ↓reduceIte, Nat.reduceEqDiff, Nat.left_eq_add, Nat.add_eq_left, Nat.add_left_cancel_iff, Nat.reduceAdd, Int.reduceLT, Int.reduceLE, Int.reduceAdd, Int.reduceSub, Int.reduceNeg, Int.reduceMul, Int.reduceToNat, Int.reduceEq, reduceCtorEq, true_and, and_true, true_or, or_true, and_false, false_and, or_false, false_or, not_true_eq_false, not_false_eq_true, Nat.le_refl, and_self, Sum.inl.injEq, Sum.inr.injEq, Option.some.injEq, hS_2, k_isref, pd_0, pd_s, List.cons_append, List.nil_append, Option.toList_none, Option.toList_some, tX12_sound, rX12_sound]
  refine cV (d' := 0) [vI k] [] l_12_224 h1 (e_isCmd h1) (by omega) (p_go [] 40 ?_)
  by_cases hk : 0 ≤ k ∧ k < s 35
  · rw [if_pos hk, if_pos hk]
    obtain ⟨kn, ek⟩ : ∃ n : Nat, k = (n : Int) := ⟨k.toNat, by omega⟩
    subst ek
    have hc := c2 hk
    have hb := hsm kn (by omega)
    rw [Int.toNat_natCast] at hc
    have k1 : (hS h 57 (mO (mS s 0 0))).2 57 = some (mO (mS s 0 0)) := hS_s _ _ _
    have k2 := (hS_n (h := h) (c := mO (mS s 0 0)) (show 81 ≠ 57 by decide)).trans h96
    have k3 := (hS_n (h := h) (c := mO (mS s 0 0)) (show 82 ≠ 57 by decide)).trans h97
    generalize hS h 57 (mO (mS s 0 0)) = h3 at k1 k2 k3 hc ⊢
    simp only [st_0, st_1, st_2, st_3, st_4, st_5, st_6, st_7, st_8, st_9, st_10, st_11, st_12, st_13, st_14, st_15, st_16, st_17, st_18, st_19, st_20, st_21, st_22, st_23, st_24, st_25, st_26, st_27, st_28, st_29, st_30, st_31, st_32, st_33, st_34, st_34a, st_35, st_36, st_37, st_38, st_39, st_42, st_44, st_45, st_47, st_40, st_41, st_46, st_48, st_49, st_43, go_0, go_s, cut_0, cut_s, get_0, get_s, put_0, put_1, put_s, clr_0, clr_s, unl_i, unl_l, unl_r, unl_n, nth_0, nth_s, sf_0, sf_s, cnd_0, cnd_1, cnd_2, cnd_3, cnd_4, cnd_5, fit_0, fit_1, fit_2, en_0, en_i, en_l, en_r, kb_t, kb_f, kb_n, sw_0, sw_s, ↓reduceIte, Nat.reduceEqDiff, Nat.left_eq_add, Nat.add_eq_left, Nat.add_left_cancel_iff, Nat.reduceAdd, Int.reduceLT, Int.reduceLE, Int.reduceAdd, Int.reduceSub, Int.reduceNeg, Int.reduceMul, Int.reduceToNat, Int.reduceEq, reduceCtorEq, true_and, and_true, true_or, or_true, and_false, false_and, or_false, false_or, not_true_eq_false, not_false_eq_true, Nat.le_refl, and_self, Sum.inl.injEq, Sum.inr.injEq, Option.some.injEq, hS_2, k_isref, pd_0, pd_s, List.cons_append, List.nil_append, Option.toList_none, Option.toList_some, tX12_sound, rX12_sound, k1, k2, k3, Int.toNat_natCast]
    refine k_brI (fun c => ?_) (fun c => ⟨⟨by omega, by omega⟩, k_brI (fun c2 => ?_) (fun c2 => ?_)⟩)
    · rw [if_neg (by omega)] at hc
      exact hc
    · rw [if_neg (by omega)] at hc
      exact hc
    · rw [if_pos (by omega)] at hc
      have e2 : ((40 : Int) * kn + i).toNat = 40 * kn + i.toNat := by omega
      rw [e2]
      (repeat (first | exact hc | refine ⟨⟨by omega, by omega⟩, ?_⟩ | refine And.intro (by omega) ?_))
  · rw [if_neg hk, if_neg hk]
    simp only [st_0, st_1, st_2, st_3, st_4, st_5, st_6, st_7, st_8, st_9, st_10, st_11, st_12, st_13, st_14, st_15, st_16, st_17, st_18, st_19, st_20, st_21, st_22, st_23, st_24, st_25, st_26, st_27, st_28, st_29, st_30, st_31, st_32, st_33, st_34, st_34a, st_35, st_36, st_37, st_38, st_39, st_42, st_44, st_45, st_47, st_40, st_41, st_46, st_48, st_49, st_43, go_0, go_s, cut_0, cut_s, get_0, get_s, put_0, put_1, put_s, clr_0, clr_s, unl_i, unl_l, unl_r, unl_n, nth_0, nth_s, sf_0, sf_s, cnd_0, cnd_1, cnd_2, cnd_3, cnd_4, cnd_5, fit_0, fit_1, fit_2, en_0, en_i, en_l, en_r, kb_t, kb_f, kb_n, sw_0, sw_s, ↓reduceIte, Nat.reduceEqDiff, Nat.left_eq_add, Nat.add_eq_left, Nat.add_left_cancel_iff, Nat.reduceAdd, Int.reduceLT, Int.reduceLE, Int.reduceAdd, Int.reduceSub, Int.reduceNeg, Int.reduceMul, Int.reduceToNat, Int.reduceEq, reduceCtorEq, true_and, and_true, true_or, or_true, and_false, false_and, or_false, false_or, not_true_eq_false, not_false_eq_true, Nat.le_refl, and_self, Sum.inl.injEq, Sum.inr.injEq, Option.some.injEq, hS_2, k_isref, pd_0, pd_s, List.cons_append, List.nil_append, Option.toList_none, Option.toList_some, tX12_sound, rX12_sound]
    exact c1 hk
theorem v_sound (hI : InvB n h s C e sp pc sz cl cs pk pm) (k i : Int) : StpC 1 6 mX11_sound mX12_sound [vI k, vI i] [(1, 2)] (n + 1) h := by
  have hB := hI
  obtain ⟨h72, h1, he, vC, vH, vT, vL, vX, vG, vN, vE, vS⟩ := hI
  obtain ⟨g0, ⟨wl, ws, wp, wq, op, oq, pt, ob, nw, wc, gr, gw⟩, g3, g4, g5, g6, g7, g8, g9, g10, sd, sm, g11, g12, g13⟩ := vG
  have hsm : ∀ k : Nat, (k : Int) < s 35 → sm k ≤ 40 := fun k hk => by rw [(g13 k (by omega)).1]; exact (g13 k (by omega)).2.1.2
  refine e_sound h1 gr.1 gr.2.2.2.2.2.2.2.2.2.2 g3 g5 (by decide) (fun c => ?_) (fun c => ?_)
  · refine ⟨rfl, rfl, rfl, 1, 0, Or.inr ⟨2, by decide, rfl⟩, fun g hg => ?_⟩
    refine e_msound2 ((hg 57 (by decide)).trans h72) ((hg 81 (by decide)).trans g11) ((hg 82 (by decide)).trans g12) (by omega) hsm (by decide) (fun _ => ?_) (fun c2 => ?_)
    · exact fin0 hB hg (fun q => by omega)
    · exact absurd c2 (by rw [g9]; exact c)
  · refine ⟨rfl, rfl, rfl, 0, _, Or.inl ⟨rfl, rfl⟩, fun g hg => ?_⟩
    refine e_msound2 ((hg 57 (by decide)).trans h72) ((hg 81 (by decide)).trans g11) ((hg 82 (by decide)).trans g12) (by omega) hsm (by decide) (fun c2 => ?_) (fun _ => ?_)
    · exact absurd (by rw [g9]; exact c) c2
    · refine fin0 hB hg (fun _ => ?_)
      obtain ⟨q1, q2, q3, q4⟩ := g13 k.toNat (by omega)
      rw [q1]
      split
      · exact q3 _ (by omega)
      · rfl
theorem v_pick (hI : InvB n h s C e sp pc sz cl cs pk pm) (k i : Int) : StpC 2 12 mX11_pick mX12_pick [vI k, vI i] [(1, 2), (2, 0)] (n + 1) h := by
  have hB := hI
  obtain ⟨h72, h1, he, vC, vH, vT, vL, vX, vG, vN, vE, vS⟩ := hI
  obtain ⟨g0, ⟨wl, ws, wp, wq, op, oq, pt, ob, nw, wc, gr, gw⟩, g3, g4, g5, g6, g7, g8, g9, g10, sd, sm, g11, g12, g13⟩ := vG
  refine e_pick h1 gr.1 gr.2.2.2.2.2.2.2.2.2.1 g5 g6 (by decide) (fun c => ?_) (fun c c2 => ?_) (fun c c2 => ?_)
  · refine ⟨rfl, rfl, rfl, 1, 0, Or.inr ⟨2, by decide, rfl⟩, fun g hg => ?_⟩
    exact e_mpick ((hg 57 (by decide)).trans h72) ((hg 80 (by decide)).trans g8) (by omega) (by omega) (by decide) (fun _ => fin0 hB hg (fun q => by omega)) (fun q => absurd q (by rw [g9]; exact c)) (fun q => absurd q (by rw [g9]; exact c))
  · refine ⟨rfl, rfl, rfl, 2, 0, Or.inr ⟨0, by decide, rfl⟩, fun g hg => ?_⟩
    exact e_mpick ((hg 57 (by decide)).trans h72) ((hg 80 (by decide)).trans g8) (by omega) (by omega) (by decide) (fun q => absurd (by rw [g9]; exact c) q) (fun _ _ => fin0 hB hg (fun q => by omega)) (fun _ q => absurd q (by rw [g10]; exact c2))
  · refine ⟨rfl, rfl, rfl, 0, _, Or.inl ⟨rfl, rfl⟩, fun g hg => ?_⟩
    refine e_mpick ((hg 57 (by decide)).trans h72) ((hg 80 (by decide)).trans g8) (by omega) (by omega) (by decide) (fun q => absurd (by rw [g9]; exact c) q) (fun _ q => absurd (by rw [g10]; exact c2) q) (fun _ _ => fin0 hB hg (fun _ => ?_))
    rw [(g13 k.toNat (by omega)).2.2.2 i.toNat (by omega), Nat.mul_comm 8]
theorem v_again (hI : InvB n h s C e sp pc sz cl cs pk pm) (k : Int) : StpC 0 0 mX11_again mX12_again [vI k] [] (n + 1) h := by
  have hB := hI
  obtain ⟨h72, h1, he, vC, vH, vT, vL, vX, vG, vN, vE, vS⟩ := hI
  obtain ⟨g0, ⟨wl, ws, wp, wq, op, oq, pt, ob, nw, wc, gr, gw⟩, g3, g4, g5, g6, g7, g8, g9, g10, sd, sm, g11, g12, g13⟩ := vG
  obtain ⟨ac, S, ag, a1, a2, a3, ⟨b1, b2, b3, b4⟩, a5⟩ := vE
  refine k_Evm (fun o h1' p => ?_) (e_again h1 a1 a2 a3 (by decide) k)
  obtain ⟨rfl, rfl⟩ := p
  refine ⟨rfl, rfl, rfl, 0, _, Or.inl ⟨rfl, rfl⟩, fun g hg => ?_⟩
  have go : ∀ ag0 : F_, (if k < 0 then -1 else mAsk s pm ag0 k) = (if 0 ≤ k ∧ k < ac then ag k.toNat else -1) → k_Ev false 22 0 0 mX12_again [vR 57, vI k] g (FinT (n + 1) 0 (if 0 ≤ k ∧ k < ac then ag k.toNat else -1) g) := fun ag0 hq => by
    refine k_Evm (fun o h2 p => ?_) (e_magain (k := k) ag0 ((hg 57 (by decide)).trans h72) ((hg 80 (by decide)).trans g8) (by omega) b3 b4 (by decide))
    obtain ⟨rfl, rfl⟩ := p
    exact fin0 hB hg (fun _ => hq)
  rcases a5 with ⟨c1, c2, c3, c4⟩ | ⟨c1, c2, c3, c4, c5⟩
  · refine go Z_ ?_
    unfold mAsk
    rw [if_neg (c := 0 ≤ k ∧ k < ac) (by omega), if_pos (c := s 45 < 0 ∨ s 47 < 0) (by omega)]
    split <;> rfl
  · rcases c5 with ⟨c6, c7, c8⟩ | ⟨c6, c7, ag0, c8⟩
    · refine go Z_ ?_
      unfold mAsk
      rw [if_neg (c := 0 ≤ k ∧ k < ac) (by omega), if_pos (c := s 45 < 0 ∨ s 47 < 0) (by omega)]
      split <;> rfl
    · refine go ag0 ?_
      unfold mAsk
      rw [if_neg (c := s 45 < 0 ∨ s 47 < 0) (by omega), g10, Int.toNat_natCast, c1, c4, ← ask_M g13 (by omega) (by omega), ← c8]
      unfold askV
      dsimp only
      by_cases q : k < 0
      · rw [if_pos q, if_neg (by omega)]
      · rw [if_neg q, if_neg q]
        by_cases q2 : k < ac
        · rw [if_pos q2, if_pos (by omega)]
        · rw [if_neg q2, if_neg (by omega)]
theorem v_heard (hI : InvB n h s C e sp pc sz cl cs pk pm) (w : Int) : StpC 1 6 mX11_heard mX12_heard [vI w] [(1, 0)] (n + 1) h := by
  have hB := hI
  obtain ⟨h72, h1, he, vC, vH, vT, vL, vX, vG, vN, vE, vS⟩ := hI
  obtain ⟨g0, ⟨wl, ws, wp, wq, op, oq, pt, ob, nw, wc, gr, gw⟩, g3, g4, g5, g6, g7, g8, g9, g10, sd, sm, g11, g12, g13⟩ := vG
  obtain ⟨ac, S, ag, a1, a2, a3, ⟨b1, b2, b3, b4⟩, a5⟩ := vE
  have hI2 : S.2.2.1 = -1 ∨ ((0 ≤ S.2.1 ∧ S.2.1 ≤ 1000000) ∧ 0 ≤ S.2.2.2 ∧ S.2.2.2 ≤ 1000000) := by
    rcases a5 with ⟨c1, c2, c3, c4⟩ | ⟨c1, c2, c3, c4, c5⟩
    · exact Or.inl c2
    · rcases c5 with ⟨c6, c7, c8⟩ | ⟨c6, c7, ag0, c8⟩
      · exact Or.inl c6
      · exact Or.inr ⟨by omega, by omega⟩
  refine e_heard h1 a1 hI2 (by decide) (fun c => ?_) (fun c => ?_)
  · refine ⟨rfl, rfl, rfl, 1, 0, Or.inr ⟨0, by decide, rfl⟩, fun g hg => ?_⟩
    exact e_mheard (w := w) Z_ ((hg 57 (by decide)).trans h72) ((hg 80 (by decide)).trans g8) (by omega) b3 b4 b1 b2 (by decide) (fun _ => fin0 hB hg (fun q => by omega)) (fun q => absurd q c)
  · refine ⟨rfl, rfl, rfl, 0, _, Or.inl ⟨rfl, rfl⟩, fun g hg => ?_⟩
    have go : ∀ ag0 : F_, mHd s pm ag0 w = tld ac S w → k_Ev false 22 0 0 mX12_heard [vR 57, vI w] g (FinT (n + 1) 0 (tld ac S w) g) := fun ag0 hq => e_mheard (w := w) ag0 ((hg 57 (by decide)).trans h72) ((hg 80 (by decide)).trans g8) (by omega) b3 b4 b1 b2 (by decide) (fun q => absurd c q) (fun _ => fin0 hB hg (fun _ => hq))
    rcases a5 with ⟨c1, c2, c3, c4⟩ | ⟨c1, c2, c3, c4, c5⟩
    · refine go Z_ ?_
      unfold mHd tld
      rw [if_pos (c := s 45 < 0) (by omega), if_pos c1]
    · rcases c5 with ⟨c6, c7, c8⟩ | ⟨c6, c7, ag0, c8⟩
      · refine go Z_ ?_
        unfold mHd tld mAsk
        rw [if_neg (c := s 45 < 0) (by omega), if_neg (c := S.1 = -1) (by omega), if_neg (c := 0 ≤ s 47) (by omega), if_pos (c := s 45 < 0 ∨ s 47 < 0) (by omega), if_pos c6, if_neg (c := 0 ≤ s 47) (by omega), c1, c3, c4, c7, c8, if_pos (c := (-1 : Int) < 0) (by decide)]
        repeat' split
        all_goals first | rfl | omega
      · refine go ag0 ?_
        have e5 : mAsk s pm ag0 (-1) = ac := by
          unfold mAsk
          rw [if_neg (c := s 45 < 0 ∨ s 47 < 0) (by omega), g10, Int.toNat_natCast, c1, c4, ← ask_M g13 (by omega) (by omega), ← c8]
          unfold askV
          rw [if_pos (by decide)]
        unfold mHd tld
        rw [e5, if_neg (c := s 45 < 0) (by omega), if_neg (c := S.1 = -1) (by omega), if_pos (c := 0 ≤ s 47) (by omega), if_pos (c := 0 ≤ s 47) (by omega), if_neg (c := S.2.2.1 = -1) (by omega), c1, c3, c4, c7]
        repeat' split
        all_goals first | rfl | omega
theorem v_slot (hI : InvB n h s C e sp pc sz cl cs pk pm) : StpC 1 6 mX11_slot mX12_slot [] [(1, 1)] (n + 1) h := by
  have hB := hI
  obtain ⟨h72, h1, he, vC, vH, vT, vL, vX, vG, vN, vE, vS⟩ := hI
  obtain ⟨ns, kn, ed, T, wl, ws, wn, GG, WS, WM, SW, a1, a2, a3, a4, a5, a6, a7, a8, a9, a10, a11, a12, a13, a14, a15, a16, a17, a18, a19, a20, a21⟩ := vS
  refine e_slot h1 a1 a10 (by decide) (fun c => ?_) (fun c => ?_)
  · refine ⟨rfl, rfl, rfl, 1, 0, Or.inr ⟨1, by decide, rfl⟩, fun g hg => ?_⟩
    exact e_mslot ((hg 57 (by decide)).trans h72) (by omega) (by decide) (fun _ => fin0 hB hg (fun q => by omega)) (fun q => by omega)
  · refine ⟨hS_n (by decide), hS_n (by decide), hS_n (by decide), 0, _, Or.inl ⟨rfl, rfl⟩, fun g hg => ?_⟩
    refine e_mslot ((hg 57 (by decide)).trans ((hS_n (by decide)).trans h72)) (by omega) (by decide) (fun q => by omega) (fun _ => ?_)
    have fr : ∀ z, (z ≠ 34 ∧ z ≠ 57 ∧ z ≠ 91) → (hS g 57 (mO (mS (mS s 0 0) 52 (s 52 + 1)))).2 z = h.2 z := fun z q => (hS_n q.2.1).trans ((hg z q.2.2).trans (hS_n q.1))
    have f34 : (hS g 57 (mO (mS (mS s 0 0) 52 (s 52 + 1)))).2 34 = some (slO 34 (ns + 1) T.1 0 ed) := (hS_n (by decide)).trans ((hg 34 (by decide)).trans (hS_s _ _ _))
    exact ⟨s 52, mS (mS s 0 0) 52 (s 52 + 1), rfl, hS_s _ _ _, rfl, fun _ => a19, ⟨mS (mS s 0 0) 52 (s 52 + 1), C, e, sp, pc, sz, cl, cs, pk, pm, hS_s _ _ _, (fr 1 (by omega)).trans h1, (by omega), vC.fr (fun z a => fr z (by omega)) rfl, vH.fr (fun z a => fr z (by omega)) rfl, vT.fr (fun z a => fr z (by omega)) rfl, vL.fr (fun z a => fr z (by omega)) rfl rfl, vX.fr (fun z a => fr z (by omega)), vG.fr (fun z a => fr z (by omega)) rfl rfl, vN.fr (fr 31 (by omega)), vE.fr (fun z a => fr z (by omega)) (fun i a b => (mS_n (by omega)).trans ((mS_n (by omega)))), ⟨ns + 1, 0, ed, T, wl, ws, wn, GG, WS, WM, SW, f34, a2.fr (fun z a b => fr z (by omega)), a3, (fr _ (by omega)).trans a4, (fr _ (by omega)).trans a5, (fr _ (by omega)).trans a6, (fr _ (by omega)).trans a7, a8, a9, by omega, Or.inl rfl, a12, (fr _ (by omega)).trans a13, (fr _ (by omega)).trans a14, (fr _ (by omega)).trans a15, (by obtain ⟨q, q1⟩ := a16; exact ⟨q, (fr _ (by omega)).trans q1⟩), (by obtain ⟨q, q1⟩ := a17; exact ⟨q, (fr _ (by omega)).trans q1⟩), (by obtain ⟨q, q1⟩ := a18; exact ⟨q, (fr _ (by omega)).trans q1⟩), (by rw [mS_s, a19]; omega), a20, fun q => by omega⟩⟩, hS_n (by decide), hS_n (by decide)⟩
end Stp981
