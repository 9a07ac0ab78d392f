/-! the reference: grammar, its loops -/
section Mgra86
variable {x : Bool} {d : Nat} {h h0 : PH} {t : F_} {P : PO → PH → Prop} {pc wc : Nat} {wp wq wl ws : F_} {many : Nat} {q : Nat → F_} {np : F_}
set_option maxRecDepth 100000 in
set_option maxHeartbeats 4000000 in
theorem w_gr6 {z : Int} (hM : MWd h t wc wp wq wl ws) (h31 : t 31 = pc) (h33 : t 33 = 0) (h98 : h.2 83 = some (cI 960 np)) (hmany : many ≤ 120) (hpc : pc ≤ 8) (hwc : wc ≤ 20) (hwl : ∀ i, i < wc → 0 ≤ wl i ∧ wl i ≤ 20) (hwp : ∀ i, i < wc → -1 ≤ wp i ∧ wp i < pc) (hr : ∀ k, k < many → ∀ p, p < pc → np (8 * k + p) = q k p) (hd : 2 ≤ d)
    (kO : (∀ k, k < many → smj pc (q k) wp wq wl wc 0 0 ≤ 40) → ∀ pi, k_Wp x d 0 0 mX12_grammar P 0 0 149 [some (vR 57), some (vI z), some (vI many), none, none] [] (hS h 84 (cI 8 pi)))
    (kB : (∃ k, k < many ∧ 40 < smj pc (q k) wp wq wl wc 0 0) → ∀ pi, k_Wp x d 0 0 mX12_grammar P 0 0 149 [some (vR 57), some (vI z), some (vI many), none, none] [] (hS (hS h 84 (cI 8 pi)) 57 (mO (mS (mS t 33 6) 34 (t 9))))) : ∀ (j k : Nat) (pi : F_), k + j = many → (∀ u, u < k → smj pc (q u) wp wq wl wc 0 0 ≤ 40) →
    k_Wp x d 0 0 mX12_grammar P 0 0 110 [some (vR 57), some (vI z), some (vI many), some (vI k), none] [] (hS h 84 (cI 8 pi)) := by
  intro j
  induction j with
  | zero =>
    intro k pi hk hu
    have e1 : (many : Int) ≤ k := by omega
    have hl := kO (fun u hu' => hu u (by omega)) pi
    refine p_go [149] 40 ?_
    simp only [st_0, st_1, st_2, st_3, st_4, st_5, st_6, st_7, st_8, st_9, st_10, st_11, st_12, st_13, st_14, st_15, st_16, st_17, st_18, st_19, st_20, st_21, st_22, st_23, st_24, st_25, st_26, st_27, st_28, st_29, st_30, st_31, st_32, st_33, st_34, st_34a, st_35, st_36, st_37, st_38, st_39, st_42, st_44, st_45, st_47, st_40, st_41, st_46, st_48, st_49, st_43, go_0, go_s, cut_0, cut_s, get_0, get_s, put_0, put_1, put_s, clr_0, clr_s, unl_i, unl_l, unl_r, unl_n, nth_0, nth_s, sf_0, sf_s, cnd_0, cnd_1, cnd_2, cnd_3, cnd_4, cnd_5, fit_0, fit_1, fit_2, en_0, en_i, en_l, en_r, kb_t, kb_f, kb_n, sw_0, sw_s, ↓reduceIte, Nat.reduceEqDiff, Nat.left_eq_add, Nat.add_eq_left, Nat.add_left_cancel_iff, Nat.reduceAdd, Int.reduceLT, Int.reduceLE, Int.reduceAdd, Int.reduceSub, Int.reduceNeg, Int.reduceMul, Int.reduceToNat, Int.reduceEq, reduceCtorEq, true_and, and_true, true_or, or_true, and_false, false_and, or_false, false_or, not_true_eq_false, not_false_eq_true, Nat.le_refl, and_self, Sum.inl.injEq, Sum.inr.injEq, Option.some.injEq, hS_2, k_isref, pd_0, pd_s, List.cons_append, List.nil_append, Option.toList_none, Option.toList_some, tX12_grammar, rX12_grammar, e1]
    exact p_sub (by (repeat (first | exact le_nil | refine le_s ?_ | refine le_n ?_))) hl
  | succ j ih =>
    intro k pi hk hu
    have e1 : ¬ (many : Int) ≤ k := by omega
    have e33 : (t 33 = 0) = True := eq_true h33
    have k1 := (hS_n (h := h) (a := 84) (c := cI 8 pi) (show 57 ≠ 84 by decide)).trans hM.1
    have k98 := (hS_n (h := h) (a := 84) (c := cI 8 pi) (show 83 ≠ 84 by decide)).trans h98
    have hev := e_saysN (x := x) (d := 1) (k := k) (nw := q k) (hM.fr (h' := hS h 84 (cI 8 pi)) (fun z hz => hS_n (by omega))) h31 k98 (hS_s _ _ _) (by omega) hpc hwc hwl hwp (hr k (by omega)) (Nat.le_refl 1)
    rw [hS_hS] at hev
    have hnx := ih (k + 1) (va_cpy np pi (8 * k) 0 pc) (by omega)
    have hkB := kB
    have k2 := (hS_n (h := h) (a := 84) (c := cI 8 (va_cpy np pi (8 * k) 0 pc)) (show 57 ≠ 84 by decide)).trans hM.1
    have hwr := e_wrong (x := x) (d := 0) (w := 6) (p := t 9) k2
    rw [h33, if_neg (by decide)] at hwr
    refine p_go [] 40 ?_
    simp only [st_0, st_1, st_2, st_3, st_4, st_5, st_6, st_7, st_8, st_9, st_10, st_11, st_12, st_13, st_14, st_15, st_16, st_17, st_18, st_19, st_20, st_21, st_22, st_23, st_24, st_25, st_26, st_27, st_28, st_29, st_30, st_31, st_32, st_33, st_34, st_34a, st_35, st_36, st_37, st_38, st_39, st_42, st_44, st_45, st_47, st_40, st_41, st_46, st_48, st_49, st_43, go_0, go_s, cut_0, cut_s, get_0, get_s, put_0, put_1, put_s, clr_0, clr_s, unl_i, unl_l, unl_r, unl_n, nth_0, nth_s, sf_0, sf_s, cnd_0, cnd_1, cnd_2, cnd_3, cnd_4, cnd_5, fit_0, fit_1, fit_2, en_0, en_i, en_l, en_r, kb_t, kb_f, kb_n, sw_0, sw_s, ↓reduceIte, Nat.reduceEqDiff, Nat.left_eq_add, Nat.add_eq_left, Nat.add_left_cancel_iff, Nat.reduceAdd, Int.reduceLT, Int.reduceLE, Int.reduceAdd, Int.reduceSub, Int.reduceNeg, Int.reduceMul, Int.reduceToNat, Int.reduceEq, reduceCtorEq, true_and, and_true, true_or, or_true, and_false, false_and, or_false, false_or, not_true_eq_false, not_false_eq_true, Nat.le_refl, and_self, Sum.inl.injEq, Sum.inr.injEq, Option.some.injEq, hS_2, k_isref, pd_0, pd_s, List.cons_append, List.nil_append, Option.toList_none, Option.toList_some, tX12_grammar, rX12_grammar, hM.1, e1, e33]
    refine cV (d' := 1) [vI k, vI (-1)] [] l_12_215 k1 hev (by omega) (p_go [143] 40 ?_)
    by_cases h40 : smj pc (q k) wp wq wl wc 0 0 ≤ 40
    · have e40 : (smj pc (q k) wp wq wl wc 0 0 ≤ 40) = True := eq_true h40
      have hl := hnx (fun u hu' => by
        by_cases eu : u = k
        · subst eu; exact h40
        · exact hu u (by omega))
      simp only [st_0, st_1, st_2, st_3, st_4, st_5, st_6, st_7, st_8, st_9, st_10, st_11, st_12, st_13, st_14, st_15, st_16, st_17, st_18, st_19, st_20, st_21, st_22, st_23, st_24, st_25, st_26, st_27, st_28, st_29, st_30, st_31, st_32, st_33, st_34, st_34a, st_35, st_36, st_37, st_38, st_39, st_42, st_44, st_45, st_47, st_40, st_41, st_46, st_48, st_49, st_43, go_0, go_s, cut_0, cut_s, get_0, get_s, put_0, put_1, put_s, clr_0, clr_s, unl_i, unl_l, unl_r, unl_n, nth_0, nth_s, sf_0, sf_s, cnd_0, cnd_1, cnd_2, cnd_3, cnd_4, cnd_5, fit_0, fit_1, fit_2, en_0, en_i, en_l, en_r, kb_t, kb_f, kb_n, sw_0, sw_s, ↓reduceIte, Nat.reduceEqDiff, Nat.left_eq_add, Nat.add_eq_left, Nat.add_left_cancel_iff, Nat.reduceAdd, Int.reduceLT, Int.reduceLE, Int.reduceAdd, Int.reduceSub, Int.reduceNeg, Int.reduceMul, Int.reduceToNat, Int.reduceEq, reduceCtorEq, true_and, and_true, true_or, or_true, and_false, false_and, or_false, false_or, not_true_eq_false, not_false_eq_true, Nat.le_refl, and_self, Sum.inl.injEq, Sum.inr.injEq, Option.some.injEq, hS_2, k_isref, pd_0, pd_s, List.cons_append, List.nil_append, Option.toList_none, Option.toList_some, tX12_grammar, rX12_grammar, e40]
      refine p_go [110] 40 ?_
      simp only [st_0, st_1, st_2, st_3, st_4, st_5, st_6, st_7, st_8, st_9, st_10, st_11, st_12, st_13, st_14, st_15, st_16, st_17, st_18, st_19, st_20, st_21, st_22, st_23, st_24, st_25, st_26, st_27, st_28, st_29, st_30, st_31, st_32, st_33, st_34, st_34a, st_35, st_36, st_37, st_38, st_39, st_42, st_44, st_45, st_47, st_40, st_41, st_46, st_48, st_49, st_43, go_0, go_s, cut_0, cut_s, get_0, get_s, put_0, put_1, put_s, clr_0, clr_s, unl_i, unl_l, unl_r, unl_n, nth_0, nth_s, sf_0, sf_s, cnd_0, cnd_1, cnd_2, cnd_3, cnd_4, cnd_5, fit_0, fit_1, fit_2, en_0, en_i, en_l, en_r, kb_t, kb_f, kb_n, sw_0, sw_s, ↓reduceIte, Nat.reduceEqDiff, Nat.left_eq_add, Nat.add_eq_left, Nat.add_left_cancel_iff, Nat.reduceAdd, Int.reduceLT, Int.reduceLE, Int.reduceAdd, Int.reduceSub, Int.reduceNeg, Int.reduceMul, Int.reduceToNat, Int.reduceEq, reduceCtorEq, true_and, and_true, true_or, or_true, and_false, false_and, or_false, false_or, not_true_eq_false, not_false_eq_true, Nat.le_refl, and_self, Sum.inl.injEq, Sum.inr.injEq, Option.some.injEq, hS_2, k_isref, pd_0, pd_s, List.cons_append, List.nil_append, Option.toList_none, Option.toList_some, tX12_grammar, rX12_grammar, nat1]
      exact ⟨⟨by omega, by omega⟩, hl⟩
    · have e40 : (smj pc (q k) wp wq wl wc 0 0 ≤ 40) = False := eq_false h40
      have hl := kB ⟨k, by omega, by omega⟩ (va_cpy np pi (8 * k) 0 pc)
      simp only [st_0, st_1, st_2, st_3, st_4, st_5, st_6, st_7, st_8, st_9, st_10, st_11, st_12, st_13, st_14, st_15, st_16, st_17, st_18, st_19, st_20, st_21, st_22, st_23, st_24, st_25, st_26, st_27, st_28, st_29, st_30, st_31, st_32, st_33, st_34, st_34a, st_35, st_36, st_37, st_38, st_39, st_42, st_44, st_45, st_47, st_40, st_41, st_46, st_48, st_49, st_43, go_0, go_s, cut_0, cut_s, get_0, get_s, put_0, put_1, put_s, clr_0, clr_s, unl_i, unl_l, unl_r, unl_n, nth_0, nth_s, sf_0, sf_s, cnd_0, cnd_1, cnd_2, cnd_3, cnd_4, cnd_5, fit_0, fit_1, fit_2, en_0, en_i, en_l, en_r, kb_t, kb_f, kb_n, sw_0, sw_s, ↓reduceIte, Nat.reduceEqDiff, Nat.left_eq_add, Nat.add_eq_left, Nat.add_left_cancel_iff, Nat.reduceAdd, Int.reduceLT, Int.reduceLE, Int.reduceAdd, Int.reduceSub, Int.reduceNeg, Int.reduceMul, Int.reduceToNat, Int.reduceEq, reduceCtorEq, true_and, and_true, true_or, or_true, and_false, false_and, or_false, false_or, not_true_eq_false, not_false_eq_true, Nat.le_refl, and_self, Sum.inl.injEq, Sum.inr.injEq, Option.some.injEq, hS_2, k_isref, pd_0, pd_s, List.cons_append, List.nil_append, Option.toList_none, Option.toList_some, tX12_grammar, rX12_grammar, e40, hM.1]
      refine cV (d' := 0) [vI 6, vI (t 9)] [] l_12_192 k2 hwr (by omega) (p_go [110] 40 ?_)
      have k3 : (hS (hS h 84 (cI 8 (va_cpy np pi (8 * k) 0 pc))) 57 (mO (mS (mS t 33 6) 34 (t 9)))).2 57 = some (mO (mS (mS t 33 6) 34 (t 9))) := hS_s _ _ _
      have e6 : mS (mS t 33 6) 34 (t 9) 33 = 6 := rfl
      generalize hS (hS h 84 (cI 8 (va_cpy np pi (8 * k) 0 pc))) 57 (mO (mS (mS t 33 6) 34 (t 9))) = h4 at k3 hl ⊢
      simp only [st_0, st_1, st_2, st_3, st_4, st_5, st_6, st_7, st_8, st_9, st_10, st_11, st_12, st_13, st_14, st_15, st_16, st_17, st_18, st_19, st_20, st_21, st_22, st_23, st_24, st_25, st_26, st_27, st_28, st_29, st_30, st_31, st_32, st_33, st_34, st_34a, st_35, st_36, st_37, st_38, st_39, st_42, st_44, st_45, st_47, st_40, st_41, st_46, st_48, st_49, st_43, go_0, go_s, cut_0, cut_s, get_0, get_s, put_0, put_1, put_s, clr_0, clr_s, unl_i, unl_l, unl_r, unl_n, nth_0, nth_s, sf_0, sf_s, cnd_0, cnd_1, cnd_2, cnd_3, cnd_4, cnd_5, fit_0, fit_1, fit_2, en_0, en_i, en_l, en_r, kb_t, kb_f, kb_n, sw_0, sw_s, ↓reduceIte, Nat.reduceEqDiff, Nat.left_eq_add, Nat.add_eq_left, Nat.add_left_cancel_iff, Nat.reduceAdd, Int.reduceLT, Int.reduceLE, Int.reduceAdd, Int.reduceSub, Int.reduceNeg, Int.reduceMul, Int.reduceToNat, Int.reduceEq, reduceCtorEq, true_and, and_true, true_or, or_true, and_false, false_and, or_false, false_or, not_true_eq_false, not_false_eq_true, Nat.le_refl, and_self, Sum.inl.injEq, Sum.inr.injEq, Option.some.injEq, hS_2, k_isref, pd_0, pd_s, List.cons_append, List.nil_append, Option.toList_none, Option.toList_some, tX12_grammar, rX12_grammar, nat1]
      refine ⟨⟨by omega, by omega⟩, ?_⟩
      refine p_go [149] 40 ?_
      simp only [st_0, st_1, st_2, st_3, st_4, st_5, st_6, st_7, st_8, st_9, st_10, st_11, st_12, st_13, st_14, st_15, st_16, st_17, st_18, st_19, st_20, st_21, st_22, st_23, st_24, st_25, st_26, st_27, st_28, st_29, st_30, st_31, st_32, st_33, st_34, st_34a, st_35, st_36, st_37, st_38, st_39, st_42, st_44, st_45, st_47, st_40, st_41, st_46, st_48, st_49, st_43, go_0, go_s, cut_0, cut_s, get_0, get_s, put_0, put_1, put_s, clr_0, clr_s, unl_i, unl_l, unl_r, unl_n, nth_0, nth_s, sf_0, sf_s, cnd_0, cnd_1, cnd_2, cnd_3, cnd_4, cnd_5, fit_0, fit_1, fit_2, en_0, en_i, en_l, en_r, kb_t, kb_f, kb_n, sw_0, sw_s, ↓reduceIte, Nat.reduceEqDiff, Nat.left_eq_add, Nat.add_eq_left, Nat.add_left_cancel_iff, Nat.reduceAdd, Int.reduceLT, Int.reduceLE, Int.reduceAdd, Int.reduceSub, Int.reduceNeg, Int.reduceMul, Int.reduceToNat, Int.reduceEq, reduceCtorEq, true_and, and_true, true_or, or_true, and_false, false_and, or_false, false_or, not_true_eq_false, not_false_eq_true, Nat.le_refl, and_self, Sum.inl.injEq, Sum.inr.injEq, Option.some.injEq, hS_2, k_isref, pd_0, pd_s, List.cons_append, List.nil_append, Option.toList_none, Option.toList_some, tX12_grammar, rX12_grammar, k3, e6]
      exact k_brI (fun _ => p_sub (by (repeat (first | exact le_nil | refine le_s ?_ | refine le_n ?_))) hl) (fun _ => p_sub (by (repeat (first | exact le_nil | refine le_s ?_ | refine le_n ?_))) hl)
/-- the heap while the new commands are laid down -/
abbrev gnH (h : PH) (pk sd sm pi : F_) : PH := hS (hS (hS (hS h 84 (cI 8 pi)) 81 (cI 4800 sd)) 82 (cI 120 sm)) 80 (cI 960 pk)
theorem gnH_n {pk sd sm pi : F_} {u : Nat} (h1 : u ≠ 80) (h2 : u ≠ 81) (h3 : u ≠ 82) (h4 : u ≠ 84) : (gnH h pk sd sm pi).2 u = h.2 u := (hS_n h1).trans ((hS_n h3).trans ((hS_n h2).trans (hS_n h4)))
theorem gnH_95 {pk sd sm pi : F_} : (gnH h pk sd sm pi).2 80 = some (cI 960 pk) := hS_s _ _ _
theorem gnH_97 {pk sd sm pi : F_} : (gnH h pk sd sm pi).2 82 = some (cI 120 sm) := (hS_n (by decide)).trans (hS_s _ _ _)
theorem gnH_96 {pk sd sm pi : F_} : (gnH h pk sd sm pi).2 81 = some (cI 4800 sd) := (hS_n (by decide)).trans ((hS_n (by decide)).trans (hS_s _ _ _))
theorem gnH_99 {pk sd sm pi : F_} : (gnH h pk sd sm pi).2 84 = some (cI 8 pi) := (hS_n (by decide)).trans ((hS_n (by decide)).trans ((hS_n (by decide)).trans (hS_s _ _ _)))
theorem gnH_p {pk sd sm pi pk' : F_} : hS (gnH h pk sd sm pi) 80 (cI 960 pk') = gnH h pk' sd sm pi := hS_hS
theorem gnH_m {pk sd sm pi sm' : F_} : hS (gnH h pk sd sm pi) 82 (cI 120 sm') = gnH h pk sd sm' pi := by
  unfold gnH
  rw [hS_c (a := 80) (b := 82) (by decide), hS_hS]
theorem gnH_s {pk sd sm pi sd' pi' : F_} : hS (hS (gnH h pk sd sm pi) 84 (cI 8 pi')) 81 (cI 4800 sd') = gnH h pk sd' sm pi' := by
  unfold gnH
  rw [hS_c (a := 80) (b := 84) (by decide), hS_c (a := 82) (b := 84) (by decide), hS_c (a := 81) (b := 84) (by decide), hS_hS, hS_c (a := 80) (b := 81) (by decide), hS_c (a := 82) (b := 81) (by decide), hS_hS]
set_option maxRecDepth 100000 in
set_option maxHeartbeats 4000000 in
theorem w_gr8 {z : Int} {k : Nat} {pk sd sm pi : F_} (h1 : h.2 57 = some (mO t)) (h31 : t 31 = pc) (h98 : h.2 83 = some (cI 960 np)) (hk : k < 120) (hpc : pc ≤ 8)
    (kk : k_Wp x d 0 0 mX12_grammar P 0 0 246 [some (vR 57), some (vI z), some (vI many), some (vI k), none] [] (gnH h (va_cpy np pk (8 * k) (8 * k) pc) sd sm pi)) : ∀ (j p : Nat), p + j = pc →
    k_Wp x d 0 0 mX12_grammar P 0 0 207 [some (vR 57), some (vI z), some (vI many), some (vI k), some (vI p)] [] (gnH h (va_cpy np pk (8 * k) (8 * k) p) sd sm pi) := by
  intro j
  induction j with
  | zero =>
    intro p hp
    rw [show pc = p by omega] at kk
    have k1 := (gnH_n (h := h) (pk := va_cpy np pk (8 * k) (8 * k) p) (sd := sd) (sm := sm) (pi := pi) (u := 57) (by decide) (by decide) (by decide) (by decide)).trans h1
    have e1 : t 31 ≤ (p : Int) := by omega
    generalize gnH h (va_cpy np pk (8 * k) (8 * k) p) sd sm pi = h3 at k1 kk ⊢
    refine p_go [246] 40 ?_
    simp only [st_0, st_1, st_2, st_3, st_4, st_5, st_6, st_7, st_8, st_9, st_10, st_11, st_12, st_13, st_14, st_15, st_16, st_17, st_18, st_19, st_20, st_21, st_22, st_23, st_24, st_25, st_26, st_27, st_28, st_29, st_30, st_31, st_32, st_33, st_34, st_34a, st_35, st_36, st_37, st_38, st_39, st_42, st_44, st_45, st_47, st_40, st_41, st_46, st_48, st_49, st_43, go_0, go_s, cut_0, cut_s, get_0, get_s, put_0, put_1, put_s, clr_0, clr_s, unl_i, unl_l, unl_r, unl_n, nth_0, nth_s, sf_0, sf_s, cnd_0, cnd_1, cnd_2, cnd_3, cnd_4, cnd_5, fit_0, fit_1, fit_2, en_0, en_i, en_l, en_r, kb_t, kb_f, kb_n, sw_0, sw_s, ↓reduceIte, Nat.reduceEqDiff, Nat.left_eq_add, Nat.add_eq_left, Nat.add_left_cancel_iff, Nat.reduceAdd, Int.reduceLT, Int.reduceLE, Int.reduceAdd, Int.reduceSub, Int.reduceNeg, Int.reduceMul, Int.reduceToNat, Int.reduceEq, reduceCtorEq, true_and, and_true, true_or, or_true, and_false, false_and, or_false, false_or, not_true_eq_false, not_false_eq_true, Nat.le_refl, and_self, Sum.inl.injEq, Sum.inr.injEq, Option.some.injEq, hS_2, k_isref, pd_0, pd_s, List.cons_append, List.nil_append, Option.toList_none, Option.toList_some, tX12_grammar, rX12_grammar, k1, e1]
    exact p_sub (by (repeat (first | exact le_nil | refine le_s ?_ | refine le_n ?_))) kk
  | succ j ih =>
    intro p hp
    have hnx := ih (p + 1) (by omega)
    rw [← cpy_s, ← gnH_p (pk := va_cpy np pk (8 * k) (8 * k) p)] at hnx
    have k1 := (gnH_n (h := h) (pk := va_cpy np pk (8 * k) (8 * k) p) (sd := sd) (sm := sm) (pi := pi) (u := 57) (by decide) (by decide) (by decide) (by decide)).trans h1
    have k98 := (gnH_n (h := h) (pk := va_cpy np pk (8 * k) (8 * k) p) (sd := sd) (sm := sm) (pi := pi) (u := 83) (by decide) (by decide) (by decide) (by decide)).trans h98
    have k95 := gnH_95 (h := h) (pk := va_cpy np pk (8 * k) (8 * k) p) (sd := sd) (sm := sm) (pi := pi)
    have e1 : ¬ t 31 ≤ (p : Int) := by omega
    have e2 : ((8 : Int) * k + p).toNat = 8 * k + p := by omega
    generalize gnH h (va_cpy np pk (8 * k) (8 * k) p) sd sm pi = h3 at k1 k98 k95 hnx ⊢
    refine p_go [207] 40 ?_
    simp only [st_0, st_1, st_2, st_3, st_4, st_5, st_6, st_7, st_8, st_9, st_10, st_11, st_12, st_13, st_14, st_15, st_16, st_17, st_18, st_19, st_20, st_21, st_22, st_23, st_24, st_25, st_26, st_27, st_28, st_29, st_30, st_31, st_32, st_33, st_34, st_34a, st_35, st_36, st_37, st_38, st_39, st_42, st_44, st_45, st_47, st_40, st_41, st_46, st_48, st_49, st_43, go_0, go_s, cut_0, cut_s, get_0, get_s, put_0, put_1, put_s, clr_0, clr_s, unl_i, unl_l, unl_r, unl_n, nth_0, nth_s, sf_0, sf_s, cnd_0, cnd_1, cnd_2, cnd_3, cnd_4, cnd_5, fit_0, fit_1, fit_2, en_0, en_i, en_l, en_r, kb_t, kb_f, kb_n, sw_0, sw_s, ↓reduceIte, Nat.reduceEqDiff, Nat.left_eq_add, Nat.add_eq_left, Nat.add_left_cancel_iff, Nat.reduceAdd, Int.reduceLT, Int.reduceLE, Int.reduceAdd, Int.reduceSub, Int.reduceNeg, Int.reduceMul, Int.reduceToNat, Int.reduceEq, reduceCtorEq, true_and, and_true, true_or, or_true, and_false, false_and, or_false, false_or, not_true_eq_false, not_false_eq_true, Nat.le_refl, and_self, Sum.inl.injEq, Sum.inr.injEq, Option.some.injEq, hS_2, k_isref, pd_0, pd_s, List.cons_append, List.nil_append, Option.toList_none, Option.toList_some, tX12_grammar, rX12_grammar, k1, k98, k95, e1, e2, nat1, Int.toNat_natCast]
    (repeat (first | exact hnx | refine ⟨⟨by omega, by omega⟩, ?_⟩ | refine And.intro (by omega) ?_))
/-- the commands before k are laid down -/
def gnI (pc k : Nat) (cl cs pk' : F_) (pk sd sm : F_) : Prop := ∀ u, u < k → sm u = cl u ∧ (0 ≤ cl u ∧ cl u ≤ 40) ∧ (∀ i : Nat, (i : Int) < cl u → sd (40 * u + i) = cs (u * 40 + i)) ∧ ∀ p, p < pc → pk (8 * u + p) = pk' (u * 8 + p)
set_option maxRecDepth 100000 in
set_option maxHeartbeats 4000000 in
theorem w_gr7 {z : Int} {cl cs pk' : F_} (hM : MWd h t wc wp wq wl ws) (h31 : t 31 = pc) (h98 : h.2 83 = some (cI 960 np)) (hmany : many ≤ 120) (hpc : pc ≤ 8) (hwc : wc ≤ 20) (hwl : ∀ i, i < wc → 0 ≤ wl i ∧ wl i ≤ 20) (hwp : ∀ i, i < wc → -1 ≤ wp i ∧ wp i < pc) (hr : ∀ k, k < many → ∀ p, p < pc → np (8 * k + p) = q k p) (h40 : ∀ k, k < many → smj pc (q k) wp wq wl wc 0 0 ≤ 40) (hpk : ∀ k, k < many → ∀ p, p < 8 → pk' (k * 8 + p) = q k p)
    (hrow : ∀ k, k < many → ∃ cl0 cs0 : F_, cl0 k = 0 ∧ cl k = (jwd pc (q k) wp wq wl ws k wc 0 0 cl0 cs0).2.1 k ∧ ∀ i, i < 40 → cs (k * 40 + i) = (jwd pc (q k) wp wq wl ws k wc 0 0 cl0 cs0).2.2 (k * 40 + i)) (hd : 2 ≤ d)
    (kk : ∀ pk sd sm pi, gnI pc many cl cs pk' pk sd sm → k_Wp x d 0 0 mX12_grammar P 0 0 252 [some (vR 57), some (vI z), some (vI many), none, none] [] (gnH h pk sd sm pi)) : ∀ (j k : Nat) (pk sd sm pi : F_), k + j = many → gnI pc k cl cs pk' pk sd sm →
    k_Wp x d 0 0 mX12_grammar P 0 0 184 [some (vR 57), some (vI z), some (vI many), some (vI k), none] [] (gnH h pk sd sm pi) := by
  intro j
  induction j with
  | zero =>
    intro k pk sd sm pi hk hI
    have e1 : (many : Int) ≤ k := by omega
    have hl := kk pk sd sm pi (fun u hu => hI u (by omega))
    refine p_go [252] 40 ?_
    simp only [st_0, st_1, st_2, st_3, st_4, st_5, st_6, st_7, st_8, st_9, st_10, st_11, st_12, st_13, st_14, st_15, st_16, st_17, st_18, st_19, st_20, st_21, st_22, st_23, st_24, st_25, st_26, st_27, st_28, st_29, st_30, st_31, st_32, st_33, st_34, st_34a, st_35, st_36, st_37, st_38, st_39, st_42, st_44, st_45, st_47, st_40, st_41, st_46, st_48, st_49, st_43, go_0, go_s, cut_0, cut_s, get_0, get_s, put_0, put_1, put_s, clr_0, clr_s, unl_i, unl_l, unl_r, unl_n, nth_0, nth_s, sf_0, sf_s, cnd_0, cnd_1, cnd_2, cnd_3, cnd_4, cnd_5, fit_0, fit_1, fit_2, en_0, en_i, en_l, en_r, kb_t, kb_f, kb_n, sw_0, sw_s, ↓reduceIte, Nat.reduceEqDiff, Nat.left_eq_add, Nat.add_eq_left, Nat.add_left_cancel_iff, Nat.reduceAdd, Int.reduceLT, Int.reduceLE, Int.reduceAdd, Int.reduceSub, Int.reduceNeg, Int.reduceMul, Int.reduceToNat, Int.reduceEq, reduceCtorEq, true_and, and_true, true_or, or_true, and_false, false_and, or_false, false_or, not_true_eq_false, not_false_eq_true, Nat.le_refl, and_self, Sum.inl.injEq, Sum.inr.injEq, Option.some.injEq, hS_2, k_isref, pd_0, pd_s, List.cons_append, List.nil_append, Option.toList_none, Option.toList_some, tX12_grammar, rX12_grammar, e1]
    exact p_sub (by (repeat (first | exact le_nil | refine le_s ?_ | refine le_n ?_))) hl
  | succ j ih =>
    intro k pk sd sm pi hk hI
    have e1 : ¬ (many : Int) ≤ k := by omega
    obtain ⟨cl0, cs0, r1, r2, r3⟩ := hrow k (by omega)
    have k1 := (gnH_n (h := h) (pk := pk) (sd := sd) (sm := sm) (pi := pi) (u := 57) (by decide) (by decide) (by decide) (by decide)).trans hM.1
    have k98 := (gnH_n (h := h) (pk := pk) (sd := sd) (sm := sm) (pi := pi) (u := 83) (by decide) (by decide) (by decide) (by decide)).trans h98
    have kM : MWd (gnH h pk sd sm pi) t wc wp wq wl ws := hM.fr (fun u hu => gnH_n (by omega) (by omega) (by omega) (by omega))
    have hev := e_saysW (x := x) (d := 1) (k := k) (nw := q k) (cl := cl0) (cs := cs0) kM h31 gnH_96 k98 gnH_99 (by omega) hpc hwc hwl hwp (hr k (by omega)) (h40 k (by omega)) r1 (Nat.le_refl 1)
    have e40 : (40 : Int) * k = ((40 * k : Nat) : Int) := by omega
    refine p_go [] 40 ?_
    have hcall : k_Wp x d 0 0 mX12_grammar P 0 0 200 [some (vR 57), some (vI z), some (vI many), some (vI k), none] [vI ((40 * k : Nat) : Int), vI k, vR 57, vI k, vR 82] (gnH h pk sd sm pi) := by
      refine cVQ (d' := 1) [vI k, vI ((40 * k : Nat) : Int)] [vI k, vR 82] l_12_215 k1 hev (by omega) ?_ (fun E h' q => by cases q.1)
      intro rr h3 ⟨w1, m, sd', w2, ⟨i1, i2, i3⟩, w3⟩
      cases w1
      rw [gnH_s] at w3
      subst w3
      have k97 := gnH_97 (h := h) (pk := pk) (sd := sd') (sm := sm) (pi := va_cpy np pi (8 * k) 0 pc)
      have hm40 := h40 k (by omega)
      have hclk : cl k = (m : Int) := r2.trans i1
      have hnx := ih (k + 1) (va_cpy np pk (8 * k) (8 * k) pc) sd' (fS sm k (smj pc (q k) wp wq wl wc 0 0)) (va_cpy np pi (8 * k) 0 pc) (by omega) (fun u hu => by
        by_cases eu : u = k
        · subst eu
          refine ⟨by rw [fS_s, w2, hclk], by omega, fun i hi => ?_, fun p hp => ?_⟩
          · rw [i2 i (by omega), r3 i (by omega)]
          · unfold va_cpy
            rw [if_pos (by omega), hpk u (by omega) p (by omega), ← hr u (by omega) p hp]
            congr 1
            omega
        · obtain ⟨g1, g2, g3, g4⟩ := hI u (by omega)
          refine ⟨by rw [fS_n eu, g1], g2, fun i hi => ?_, fun p hp => ?_⟩
          · rw [i3 _ (by omega)]
            exact g3 i hi
          · unfold va_cpy
            rw [if_neg (by omega)]
            exact g4 p hp)
      have hw := w_gr8 (x := x) (d := d) (P := P) (z := z) (many := many) (k := k) (pk := pk) (sd := sd') (sm := fS sm k (smj pc (q k) wp wq wl wc 0 0)) (pi := va_cpy np pi (8 * k) 0 pc) hM.1 h31 h98 (by omega) hpc (p_go [184] 40 (by
        simp only [st_0, st_1, st_2, st_3, st_4, st_5, st_6, st_7, st_8, st_9, st_10, st_11, st_12, st_13, st_14, st_15, st_16, st_17, st_18, st_19, st_20, st_21, st_22, st_23, st_24, st_25, st_26, st_27, st_28, st_29, st_30, st_31, st_32, st_33, st_34, st_34a, st_35, st_36, st_37, st_38, st_39, st_42, st_44, st_45, st_47, st_40, st_41, st_46, st_48, st_49, st_43, go_0, go_s, cut_0, cut_s, get_0, get_s, put_0, put_1, put_s, clr_0, clr_s, unl_i, unl_l, unl_r, unl_n, nth_0, nth_s, sf_0, sf_s, cnd_0, cnd_1, cnd_2, cnd_3, cnd_4, cnd_5, fit_0, fit_1, fit_2, en_0, en_i, en_l, en_r, kb_t, kb_f, kb_n, sw_0, sw_s, ↓reduceIte, Nat.reduceEqDiff, Nat.left_eq_add, Nat.add_eq_left, Nat.add_left_cancel_iff, Nat.reduceAdd, Int.reduceLT, Int.reduceLE, Int.reduceAdd, Int.reduceSub, Int.reduceNeg, Int.reduceMul, Int.reduceToNat, Int.reduceEq, reduceCtorEq, true_and, and_true, true_or, or_true, and_false, false_and, or_false, false_or, not_true_eq_false, not_false_eq_true, Nat.le_refl, and_self, Sum.inl.injEq, Sum.inr.injEq, Option.some.injEq, hS_2, k_isref, pd_0, pd_s, List.cons_append, List.nil_append, Option.toList_none, Option.toList_some, tX12_grammar, rX12_grammar, nat1]
        exact ⟨⟨by omega, by omega⟩, p_sub (by (repeat (first | exact le_nil | refine le_s ?_ | refine le_n ?_))) hnx⟩)) pc 0 (by omega)
      rw [cpy_0, ← gnH_m (sm := sm)] at hw
      generalize gnH h pk sd' sm (va_cpy np pi (8 * k) 0 pc) = h4 at k97 hw ⊢
      refine p_go [207] 40 ?_
      simp only [st_0, st_1, st_2, st_3, st_4, st_5, st_6, st_7, st_8, st_9, st_10, st_11, st_12, st_13, st_14, st_15, st_16, st_17, st_18, st_19, st_20, st_21, st_22, st_23, st_24, st_25, st_26, st_27, st_28, st_29, st_30, st_31, st_32, st_33, st_34, st_34a, st_35, st_36, st_37, st_38, st_39, st_42, st_44, st_45, st_47, st_40, st_41, st_46, st_48, st_49, st_43, go_0, go_s, cut_0, cut_s, get_0, get_s, put_0, put_1, put_s, clr_0, clr_s, unl_i, unl_l, unl_r, unl_n, nth_0, nth_s, sf_0, sf_s, cnd_0, cnd_1, cnd_2, cnd_3, cnd_4, cnd_5, fit_0, fit_1, fit_2, en_0, en_i, en_l, en_r, kb_t, kb_f, kb_n, sw_0, sw_s, ↓reduceIte, Nat.reduceEqDiff, Nat.left_eq_add, Nat.add_eq_left, Nat.add_left_cancel_iff, Nat.reduceAdd, Int.reduceLT, Int.reduceLE, Int.reduceAdd, Int.reduceSub, Int.reduceNeg, Int.reduceMul, Int.reduceToNat, Int.reduceEq, reduceCtorEq, true_and, and_true, true_or, or_true, and_false, false_and, or_false, false_or, not_true_eq_false, not_false_eq_true, Nat.le_refl, and_self, Sum.inl.injEq, Sum.inr.injEq, Option.some.injEq, hS_2, k_isref, pd_0, pd_s, List.cons_append, List.nil_append, Option.toList_none, Option.toList_some, tX12_grammar, rX12_grammar, k97, Int.toNat_natCast]
      exact ⟨⟨by omega, by omega⟩, hw⟩
    generalize gnH h pk sd sm pi = h5 at k1 hcall ⊢
    simp only [st_0, st_1, st_2, st_3, st_4, st_5, st_6, st_7, st_8, st_9, st_10, st_11, st_12, st_13, st_14, st_15, st_16, st_17, st_18, st_19, st_20, st_21, st_22, st_23, st_24, st_25, st_26, st_27, st_28, st_29, st_30, st_31, st_32, st_33, st_34, st_34a, st_35, st_36, st_37, st_38, st_39, st_42, st_44, st_45, st_47, st_40, st_41, st_46, st_48, st_49, st_43, go_0, go_s, cut_0, cut_s, get_0, get_s, put_0, put_1, put_s, clr_0, clr_s, unl_i, unl_l, unl_r, unl_n, nth_0, nth_s, sf_0, sf_s, cnd_0, cnd_1, cnd_2, cnd_3, cnd_4, cnd_5, fit_0, fit_1, fit_2, en_0, en_i, en_l, en_r, kb_t, kb_f, kb_n, sw_0, sw_s, ↓reduceIte, Nat.reduceEqDiff, Nat.left_eq_add, Nat.add_eq_left, Nat.add_left_cancel_iff, Nat.reduceAdd, Int.reduceLT, Int.reduceLE, Int.reduceAdd, Int.reduceSub, Int.reduceNeg, Int.reduceMul, Int.reduceToNat, Int.reduceEq, reduceCtorEq, true_and, and_true, true_or, or_true, and_false, false_and, or_false, false_or, not_true_eq_false, not_false_eq_true, Nat.le_refl, and_self, Sum.inl.injEq, Sum.inr.injEq, Option.some.injEq, hS_2, k_isref, pd_0, pd_s, List.cons_append, List.nil_append, Option.toList_none, Option.toList_some, tX12_grammar, rX12_grammar, k1, e1, e40]
    exact ⟨⟨by omega, by omega⟩, hcall⟩
end Mgra86
