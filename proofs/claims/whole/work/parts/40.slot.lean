/-! Slots: the small methods -/
section Slot40
variable {x : Bool} {d : Nat} {h h0 : PH} {q sz : Nat} {wo kn ed : Int} {wl ws wn gp tr ch : F_}
abbrev slO (q sz : Nat) (wo kn ed : Int) : PC := cO 9 [vR (q + 1), vR (q + 4), vR (q + 5), vR (q + 6), vR (q + 7), vI sz, vI wo, vI kn, vI ed]
set_option maxRecDepth 100000 in
set_option maxHeartbeats 4000000 in
theorem e_ssize (h1 : h.2 q = some (slO q sz wo kn ed)) : k_Ev x d 0 0 mX9_size [vR q] h (fun o h' => o = rI sz ∧ h' = h) := by
  refine k_enp 0 (Nat.le_of_ble_eq_true rfl) (p_go [] 40 ?_)
  simp only [st_0, st_1, st_2, st_3, st_4, st_5, st_6, st_7, st_8, st_9, st_10, st_11, st_12, st_13, st_14, st_15, st_16, st_17, st_18, st_19, st_20, st_21, st_22, st_23, st_24, st_25, st_26, st_27, st_28, st_29, st_30, st_31, st_32, st_33, st_34, st_34a, st_35, st_36, st_37, st_38, st_39, st_42, st_44, st_45, st_47, st_40, st_41, st_46, st_48, st_49, st_43, go_0, go_s, cut_0, cut_s, get_0, get_s, put_0, put_1, put_s, clr_0, clr_s, unl_i, unl_l, unl_r, unl_n, nth_0, nth_s, sf_0, sf_s, cnd_0, cnd_1, cnd_2, cnd_3, cnd_4, cnd_5, fit_0, fit_1, fit_2, en_0, en_i, en_l, en_r, kb_t, kb_f, kb_n, sw_0, sw_s, ↓reduceIte, Nat.reduceEqDiff, Nat.left_eq_add, Nat.add_eq_left, Nat.add_left_cancel_iff, Nat.reduceAdd, Int.reduceLT, Int.reduceLE, Int.reduceAdd, Int.reduceSub, Int.reduceNeg, Int.reduceMul, Int.reduceToNat, Int.reduceEq, reduceCtorEq, true_and, and_true, true_or, or_true, and_false, false_and, or_false, false_or, not_true_eq_false, not_false_eq_true, Nat.le_refl, and_self, Sum.inl.injEq, Sum.inr.injEq, Option.some.injEq, hS_2, k_isref, pd_0, pd_s, List.cons_append, List.nil_append, Option.toList_none, Option.toList_some, tX9_size, rX9_size, h1]
set_option maxRecDepth 100000 in
set_option maxHeartbeats 4000000 in
theorem e_worth (h1 : h.2 q = some (slO q sz wo kn ed)) : k_Ev x d 0 0 mX9_worth [vR q] h (fun o h' => o = rI wo ∧ h' = h) := by
  refine k_enp 0 (Nat.le_of_ble_eq_true rfl) (p_go [] 40 ?_)
  simp only [st_0, st_1, st_2, st_3, st_4, st_5, st_6, st_7, st_8, st_9, st_10, st_11, st_12, st_13, st_14, st_15, st_16, st_17, st_18, st_19, st_20, st_21, st_22, st_23, st_24, st_25, st_26, st_27, st_28, st_29, st_30, st_31, st_32, st_33, st_34, st_34a, st_35, st_36, st_37, st_38, st_39, st_42, st_44, st_45, st_47, st_40, st_41, st_46, st_48, st_49, st_43, go_0, go_s, cut_0, cut_s, get_0, get_s, put_0, put_1, put_s, clr_0, clr_s, unl_i, unl_l, unl_r, unl_n, nth_0, nth_s, sf_0, sf_s, cnd_0, cnd_1, cnd_2, cnd_3, cnd_4, cnd_5, fit_0, fit_1, fit_2, en_0, en_i, en_l, en_r, kb_t, kb_f, kb_n, sw_0, sw_s, ↓reduceIte, Nat.reduceEqDiff, Nat.left_eq_add, Nat.add_eq_left, Nat.add_left_cancel_iff, Nat.reduceAdd, Int.reduceLT, Int.reduceLE, Int.reduceAdd, Int.reduceSub, Int.reduceNeg, Int.reduceMul, Int.reduceToNat, Int.reduceEq, reduceCtorEq, true_and, and_true, true_or, or_true, and_false, false_and, or_false, false_or, not_true_eq_false, not_false_eq_true, Nat.le_refl, and_self, Sum.inl.injEq, Sum.inr.injEq, Option.some.injEq, hS_2, k_isref, pd_0, pd_s, List.cons_append, List.nil_append, Option.toList_none, Option.toList_some, tX9_worth, rX9_worth, h1]
set_option maxRecDepth 100000 in
set_option maxHeartbeats 4000000 in
theorem e_open {P : PO → PH → Prop} (h1 : h.2 q = some (slO q sz wo kn ed)) (hsz : sz ≤ 8) (c1 : sz = 8 → P (rI (-1)) h) (c2 : sz < 8 → P (rI sz) (hS h q (slO q (sz + 1) wo 0 ed))) : k_Ev x d 0 0 mX9_open [vR q] h P := by
  refine k_enp 0 (Nat.le_of_ble_eq_true rfl) (p_go [] 40 ?_)
  by_cases hp : sz < 8
  · have e : ((sz : Nat) : Int) < 8 := by omega
    have e2 : ((sz + 1 : Nat) : Int) - 1 = (sz : Int) := by omega
    simp only [st_0, st_1, st_2, st_3, st_4, st_5, st_6, st_7, st_8, st_9, st_10, st_11, st_12, st_13, st_14, st_15, st_16, st_17, st_18, st_19, st_20, st_21, st_22, st_23, st_24, st_25, st_26, st_27, st_28, st_29, st_30, st_31, st_32, st_33, st_34, st_34a, st_35, st_36, st_37, st_38, st_39, st_42, st_44, st_45, st_47, st_40, st_41, st_46, st_48, st_49, st_43, go_0, go_s, cut_0, cut_s, get_0, get_s, put_0, put_1, put_s, clr_0, clr_s, unl_i, unl_l, unl_r, unl_n, nth_0, nth_s, sf_0, sf_s, cnd_0, cnd_1, cnd_2, cnd_3, cnd_4, cnd_5, fit_0, fit_1, fit_2, en_0, en_i, en_l, en_r, kb_t, kb_f, kb_n, sw_0, sw_s, ↓reduceIte, Nat.reduceEqDiff, Nat.left_eq_add, Nat.add_eq_left, Nat.add_left_cancel_iff, Nat.reduceAdd, Int.reduceLT, Int.reduceLE, Int.reduceAdd, Int.reduceSub, Int.reduceNeg, Int.reduceMul, Int.reduceToNat, Int.reduceEq, reduceCtorEq, true_and, and_true, true_or, or_true, and_false, false_and, or_false, false_or, not_true_eq_false, not_false_eq_true, Nat.le_refl, and_self, Sum.inl.injEq, Sum.inr.injEq, Option.some.injEq, hS_2, k_isref, pd_0, pd_s, List.cons_append, List.nil_append, Option.toList_none, Option.toList_some, tX9_open, rX9_open, h1, e, hS_hS, nat1, e2]
    exact ⟨⟨by omega, by omega⟩, ⟨by omega, by omega⟩, c2 hp⟩
  · have e : ¬ ((sz : Nat) : Int) < 8 := by omega
    simp only [st_0, st_1, st_2, st_3, st_4, st_5, st_6, st_7, st_8, st_9, st_10, st_11, st_12, st_13, st_14, st_15, st_16, st_17, st_18, st_19, st_20, st_21, st_22, st_23, st_24, st_25, st_26, st_27, st_28, st_29, st_30, st_31, st_32, st_33, st_34, st_34a, st_35, st_36, st_37, st_38, st_39, st_42, st_44, st_45, st_47, st_40, st_41, st_46, st_48, st_49, st_43, go_0, go_s, cut_0, cut_s, get_0, get_s, put_0, put_1, put_s, clr_0, clr_s, unl_i, unl_l, unl_r, unl_n, nth_0, nth_s, sf_0, sf_s, cnd_0, cnd_1, cnd_2, cnd_3, cnd_4, cnd_5, fit_0, fit_1, fit_2, en_0, en_i, en_l, en_r, kb_t, kb_f, kb_n, sw_0, sw_s, ↓reduceIte, Nat.reduceEqDiff, Nat.left_eq_add, Nat.add_eq_left, Nat.add_left_cancel_iff, Nat.reduceAdd, Int.reduceLT, Int.reduceLE, Int.reduceAdd, Int.reduceSub, Int.reduceNeg, Int.reduceMul, Int.reduceToNat, Int.reduceEq, reduceCtorEq, true_and, and_true, true_or, or_true, and_false, false_and, or_false, false_or, not_true_eq_false, not_false_eq_true, Nat.le_refl, and_self, Sum.inl.injEq, Sum.inr.injEq, Option.some.injEq, hS_2, k_isref, pd_0, pd_s, List.cons_append, List.nil_append, Option.toList_none, Option.toList_some, tX9_open, rX9_open, h1, e]
    exact c1 (by omega)
set_option maxRecDepth 100000 in
set_option maxHeartbeats 4000000 in
theorem e_wordsOf (h1 : h.2 q = some (slO q sz wo kn ed)) (h4 : h.2 (q + 4) = some (cI 8 wn)) (hsz : sz ≤ 8) (k : Int) : k_Ev x d 0 0 mX9_wordsOf [vR q, vI k] h (fun o h' => o = rI (if 0 ≤ k ∧ k < sz then wn k.toNat else 0) ∧ h' = h) := by
  refine k_enp 0 (Nat.le_of_ble_eq_true rfl) (p_go [] 40 ?_)
  simp only [st_0, st_1, st_2, st_3, st_4, st_5, st_6, st_7, st_8, st_9, st_10, st_11, st_12, st_13, st_14, st_15, st_16, st_17, st_18, st_19, st_20, st_21, st_22, st_23, st_24, st_25, st_26, st_27, st_28, st_29, st_30, st_31, st_32, st_33, st_34, st_34a, st_35, st_36, st_37, st_38, st_39, st_42, st_44, st_45, st_47, st_40, st_41, st_46, st_48, st_49, st_43, go_0, go_s, cut_0, cut_s, get_0, get_s, put_0, put_1, put_s, clr_0, clr_s, unl_i, unl_l, unl_r, unl_n, nth_0, nth_s, sf_0, sf_s, cnd_0, cnd_1, cnd_2, cnd_3, cnd_4, cnd_5, fit_0, fit_1, fit_2, en_0, en_i, en_l, en_r, kb_t, kb_f, kb_n, sw_0, sw_s, ↓reduceIte, Nat.reduceEqDiff, Nat.left_eq_add, Nat.add_eq_left, Nat.add_left_cancel_iff, Nat.reduceAdd, Int.reduceLT, Int.reduceLE, Int.reduceAdd, Int.reduceSub, Int.reduceNeg, Int.reduceMul, Int.reduceToNat, Int.reduceEq, reduceCtorEq, true_and, and_true, true_or, or_true, and_false, false_and, or_false, false_or, not_true_eq_false, not_false_eq_true, Nat.le_refl, and_self, Sum.inl.injEq, Sum.inr.injEq, Option.some.injEq, hS_2, k_isref, pd_0, pd_s, List.cons_append, List.nil_append, Option.toList_none, Option.toList_some, tX9_wordsOf, rX9_wordsOf, h1, h4]
  (repeat' (first | refine k_brI (fun _ => ?_) (fun _ => ?_) | refine And.intro ?_ ?_))
  all_goals first | omega | rw [if_neg (by omega)] | rw [if_pos (by omega)]
set_option maxRecDepth 100000 in
set_option maxHeartbeats 4000000 in
theorem e_choiceOf (h1 : h.2 q = some (slO q sz wo kn ed)) (h7 : h.2 (q + 7) = some (cI 8 ch)) (hsz : sz ≤ 8) (k : Int) : k_Ev x d 0 0 mX9_choiceOf [vR q, vI k] h (fun o h' => o = rI (if 0 ≤ k ∧ k < sz then ch k.toNat else -1) ∧ h' = h) := by
  refine k_enp 0 (Nat.le_of_ble_eq_true rfl) (p_go [] 40 ?_)
  simp only [st_0, st_1, st_2, st_3, st_4, st_5, st_6, st_7, st_8, st_9, st_10, st_11, st_12, st_13, st_14, st_15, st_16, st_17, st_18, st_19, st_20, st_21, st_22, st_23, st_24, st_25, st_26, st_27, st_28, st_29, st_30, st_31, st_32, st_33, st_34, st_34a, st_35, st_36, st_37, st_38, st_39, st_42, st_44, st_45, st_47, st_40, st_41, st_46, st_48, st_49, st_43, go_0, go_s, cut_0, cut_s, get_0, get_s, put_0, put_1, put_s, clr_0, clr_s, unl_i, unl_l, unl_r, unl_n, nth_0, nth_s, sf_0, sf_s, cnd_0, cnd_1, cnd_2, cnd_3, cnd_4, cnd_5, fit_0, fit_1, fit_2, en_0, en_i, en_l, en_r, kb_t, kb_f, kb_n, sw_0, sw_s, ↓reduceIte, Nat.reduceEqDiff, Nat.left_eq_add, Nat.add_eq_left, Nat.add_left_cancel_iff, Nat.reduceAdd, Int.reduceLT, Int.reduceLE, Int.reduceAdd, Int.reduceSub, Int.reduceNeg, Int.reduceMul, Int.reduceToNat, Int.reduceEq, reduceCtorEq, true_and, and_true, true_or, or_true, and_false, false_and, or_false, false_or, not_true_eq_false, not_false_eq_true, Nat.le_refl, and_self, Sum.inl.injEq, Sum.inr.injEq, Option.some.injEq, hS_2, k_isref, pd_0, pd_s, List.cons_append, List.nil_append, Option.toList_none, Option.toList_some, tX9_choiceOf, rX9_choiceOf, h1, h7]
  (repeat' (first | refine k_brI (fun _ => ?_) (fun _ => ?_) | refine And.intro ?_ ?_))
  all_goals first | omega | rw [if_neg (by omega)] | rw [if_pos (by omega)]
def swH (h : PH) (q sz : Nat) (wo ed : Int) (wl ws wn lf' sf' : F_) (k : Nat) : PH := hS (hS (hS (hS h (q + 1 + 2) (cI (32 * 20) (va_cpy sf' ws (0 * 20) ((4 * k + (wn k).toNat) * 20) (jn 20 0 (lf' 0)).toNat))) (q + 1 + 1) (cI 32 (fS wl (4 * k + (wn k).toNat) (jn 20 0 (lf' 0))))) (q + 4) (cI 8 (fS wn k (wn k + 1)))) q (slO q sz wo 0 ed)
set_option maxRecDepth 100000 in
set_option maxHeartbeats 4000000 in
theorem e_take {P : PO → PH → Prop} {q' k : Nat} {lf' sf' : F_} (h1 : h.2 q = some (slO q sz wo kn ed)) (hR : Rw h (q + 1) 20 32 wl ws) (hW : RwW 20 32 wl) (h4 : h.2 (q + 4) = some (cI 8 wn)) (hwn : ∀ s : Nat, s < 8 → 0 ≤ wn s ∧ wn s ≤ 4) (hR' : Rw h q' 20 1 lf' sf') (hW' : RwW 20 1 lf') (hq : q' + 2 < q) (hsz : sz ≤ 8) (hk : k < sz) (hd : 3 ≤ d)
    (c1 : wn k = 4 → P (rI (-1)) h) (c2 : wn k < 4 → P (rI (wn k)) (swH h q sz wo ed wl ws wn lf' sf' k)) : k_Ev x d 0 0 mX9_take [vR q, vI k, vR q'] h P := by
  have hw := hwn k (by omega)
  have e1 : ¬ ((k : Nat) : Int) < 0 := by omega
  have e2 : ¬ ((sz : Nat) : Int) ≤ k := by omega
  refine k_enp 1 (Nat.le_of_ble_eq_true rfl) (p_go [] 40 ?_)
  by_cases hp : wn k < 4
  · have e4 : (k : Int) * 4 + wn k = ((4 * k + (wn k).toNat : Nat) : Int) := by omega
    simp only [st_0, st_1, st_2, st_3, st_4, st_5, st_6, st_7, st_8, st_9, st_10, st_11, st_12, st_13, st_14, st_15, st_16, st_17, st_18, st_19, st_20, st_21, st_22, st_23, st_24, st_25, st_26, st_27, st_28, st_29, st_30, st_31, st_32, st_33, st_34, st_34a, st_35, st_36, st_37, st_38, st_39, st_42, st_44, st_45, st_47, st_40, st_41, st_46, st_48, st_49, st_43, go_0, go_s, cut_0, cut_s, get_0, get_s, put_0, put_1, put_s, clr_0, clr_s, unl_i, unl_l, unl_r, unl_n, nth_0, nth_s, sf_0, sf_s, cnd_0, cnd_1, cnd_2, cnd_3, cnd_4, cnd_5, fit_0, fit_1, fit_2, en_0, en_i, en_l, en_r, kb_t, kb_f, kb_n, sw_0, sw_s, ↓reduceIte, Nat.reduceEqDiff, Nat.left_eq_add, Nat.add_eq_left, Nat.add_left_cancel_iff, Nat.reduceAdd, Int.reduceLT, Int.reduceLE, Int.reduceAdd, Int.reduceSub, Int.reduceNeg, Int.reduceMul, Int.reduceToNat, Int.reduceEq, reduceCtorEq, true_and, and_true, true_or, or_true, and_false, false_and, or_false, false_or, not_true_eq_false, not_false_eq_true, Nat.le_refl, and_self, Sum.inl.injEq, Sum.inr.injEq, Option.some.injEq, hS_2, k_isref, pd_0, pd_s, List.cons_append, List.nil_append, Option.toList_none, Option.toList_some, tX9_take, rX9_take, h1, h4, e1, e2, hp, Int.toNat_natCast, e4]
    refine ⟨⟨by omega, by omega⟩, ⟨by omega, by omega⟩, ⟨by omega, by omega⟩, ⟨by omega, by omega⟩, ?_⟩
    refine cV (d' := 2) [vI ((4 * k + (wn k).toNat : Nat) : Int), vR q', vI ((0 : Nat) : Int)] [] l_9_44 hR.1 (e_copy hR hW (by omega) hR' hW' (by omega) (Nat.le_refl 2) (by omega)) (by omega) (p_go [] 40 ?_)
    have hc := c2 hp
    unfold swH at hc
    have hx : ∀ z : Nat, z ≠ q + 1 + 2 → z ≠ q + 1 + 1 → (hS (hS h (q + 1 + 2) (cI (32 * 20) (va_cpy sf' ws (0 * 20) ((4 * k + (wn k).toNat) * 20) (jn 20 0 (lf' 0)).toNat))) (q + 1 + 1) (cI 32 (fS wl (4 * k + (wn k).toNat) (jn 20 0 (lf' 0))))).2 z = h.2 z := fun z z1 z2 => (hS_n z2).trans (hS_n z1)
    have k1 := (hx q (by omega) (by omega)).trans h1
    have k4 := (hx (q + 4) (by omega) (by omega)).trans h4
    generalize hS (hS h (q + 1 + 2) (cI (32 * 20) (va_cpy sf' ws (0 * 20) ((4 * k + (wn k).toNat) * 20) (jn 20 0 (lf' 0)).toNat))) (q + 1 + 1) (cI 32 (fS wl (4 * k + (wn k).toNat) (jn 20 0 (lf' 0)))) = hk at k1 k4 hc ⊢
    simp only [st_0, st_1, st_2, st_3, st_4, st_5, st_6, st_7, st_8, st_9, st_10, st_11, st_12, st_13, st_14, st_15, st_16, st_17, st_18, st_19, st_20, st_21, st_22, st_23, st_24, st_25, st_26, st_27, st_28, st_29, st_30, st_31, st_32, st_33, st_34, st_34a, st_35, st_36, st_37, st_38, st_39, st_42, st_44, st_45, st_47, st_40, st_41, st_46, st_48, st_49, st_43, go_0, go_s, cut_0, cut_s, get_0, get_s, put_0, put_1, put_s, clr_0, clr_s, unl_i, unl_l, unl_r, unl_n, nth_0, nth_s, sf_0, sf_s, cnd_0, cnd_1, cnd_2, cnd_3, cnd_4, cnd_5, fit_0, fit_1, fit_2, en_0, en_i, en_l, en_r, kb_t, kb_f, kb_n, sw_0, sw_s, ↓reduceIte, Nat.reduceEqDiff, Nat.left_eq_add, Nat.add_eq_left, Nat.add_left_cancel_iff, Nat.reduceAdd, Int.reduceLT, Int.reduceLE, Int.reduceAdd, Int.reduceSub, Int.reduceNeg, Int.reduceMul, Int.reduceToNat, Int.reduceEq, reduceCtorEq, true_and, and_true, true_or, or_true, and_false, false_and, or_false, false_or, not_true_eq_false, not_false_eq_true, Nat.le_refl, and_self, Sum.inl.injEq, Sum.inr.injEq, Option.some.injEq, hS_2, k_isref, pd_0, pd_s, List.cons_append, List.nil_append, Option.toList_none, Option.toList_some, tX9_take, rX9_take, k1, k4, Int.toNat_natCast]
    exact ⟨⟨by omega, by omega⟩, ⟨by omega, by omega⟩, ⟨by omega, by omega⟩, hc⟩
  · simp only [st_0, st_1, st_2, st_3, st_4, st_5, st_6, st_7, st_8, st_9, st_10, st_11, st_12, st_13, st_14, st_15, st_16, st_17, st_18, st_19, st_20, st_21, st_22, st_23, st_24, st_25, st_26, st_27, st_28, st_29, st_30, st_31, st_32, st_33, st_34, st_34a, st_35, st_36, st_37, st_38, st_39, st_42, st_44, st_45, st_47, st_40, st_41, st_46, st_48, st_49, st_43, go_0, go_s, cut_0, cut_s, get_0, get_s, put_0, put_1, put_s, clr_0, clr_s, unl_i, unl_l, unl_r, unl_n, nth_0, nth_s, sf_0, sf_s, cnd_0, cnd_1, cnd_2, cnd_3, cnd_4, cnd_5, fit_0, fit_1, fit_2, en_0, en_i, en_l, en_r, kb_t, kb_f, kb_n, sw_0, sw_s, ↓reduceIte, Nat.reduceEqDiff, Nat.left_eq_add, Nat.add_eq_left, Nat.add_left_cancel_iff, Nat.reduceAdd, Int.reduceLT, Int.reduceLE, Int.reduceAdd, Int.reduceSub, Int.reduceNeg, Int.reduceMul, Int.reduceToNat, Int.reduceEq, reduceCtorEq, true_and, and_true, true_or, or_true, and_false, false_and, or_false, false_or, not_true_eq_false, not_false_eq_true, Nat.le_refl, and_self, Sum.inl.injEq, Sum.inr.injEq, Option.some.injEq, hS_2, k_isref, pd_0, pd_s, List.cons_append, List.nil_append, Option.toList_none, Option.toList_some, tX9_take, rX9_take, h1, h4, e1, e2, hp, Int.toNat_natCast]
    exact ⟨⟨by omega, by omega⟩, c1 (by omega)⟩
def rdyL (wn : F_) : Nat → Nat → Int
  | 0, _ => 1
  | j + 1, i => if wn i = 0 then 0 else rdyL wn j (i + 1)
set_option maxRecDepth 100000 in
set_option maxHeartbeats 4000000 in
theorem w_isReady (h1 : h.2 q = some (slO q sz wo kn ed)) (h4 : h.2 (q + 4) = some (cI 8 wn)) (hsz : sz ≤ 8) : ∀ (j i : Nat), i + j = sz →
    k_Wp x d 0 0 mX9_isReady (fun o h' => o = rI (if rdyL wn j i = 1 ∧ 2 ≤ sz then 1 else 0) ∧ h' = h) 0 0 2 [some (vR q), some (vI i)] [] h := by
  intro j
  induction j with
  | zero =>
    intro i hi
    have e : (sz : Int) ≤ i := by omega
    refine p_go [] 40 ?_
    unfold rdyL
    by_cases h2 : 2 ≤ sz
    · have e2 : ¬ (sz : Int) < 2 := by omega
      rw [if_pos ⟨rfl, h2⟩]
      simp only [st_0, st_1, st_2, st_3, st_4, st_5, st_6, st_7, st_8, st_9, st_10, st_11, st_12, st_13, st_14, st_15, st_16, st_17, st_18, st_19, st_20, st_21, st_22, st_23, st_24, st_25, st_26, st_27, st_28, st_29, st_30, st_31, st_32, st_33, st_34, st_34a, st_35, st_36, st_37, st_38, st_39, st_42, st_44, st_45, st_47, st_40, st_41, st_46, st_48, st_49, st_43, go_0, go_s, cut_0, cut_s, get_0, get_s, put_0, put_1, put_s, clr_0, clr_s, unl_i, unl_l, unl_r, unl_n, nth_0, nth_s, sf_0, sf_s, cnd_0, cnd_1, cnd_2, cnd_3, cnd_4, cnd_5, fit_0, fit_1, fit_2, en_0, en_i, en_l, en_r, kb_t, kb_f, kb_n, sw_0, sw_s, ↓reduceIte, Nat.reduceEqDiff, Nat.left_eq_add, Nat.add_eq_left, Nat.add_left_cancel_iff, Nat.reduceAdd, Int.reduceLT, Int.reduceLE, Int.reduceAdd, Int.reduceSub, Int.reduceNeg, Int.reduceMul, Int.reduceToNat, Int.reduceEq, reduceCtorEq, true_and, and_true, true_or, or_true, and_false, false_and, or_false, false_or, not_true_eq_false, not_false_eq_true, Nat.le_refl, and_self, Sum.inl.injEq, Sum.inr.injEq, Option.some.injEq, hS_2, k_isref, pd_0, pd_s, List.cons_append, List.nil_append, Option.toList_none, Option.toList_some, tX9_isReady, rX9_isReady, h1, e, e2]
    · have e2 : (sz : Int) < 2 := by omega
      rw [if_neg (fun c => h2 c.2)]
      simp only [st_0, st_1, st_2, st_3, st_4, st_5, st_6, st_7, st_8, st_9, st_10, st_11, st_12, st_13, st_14, st_15, st_16, st_17, st_18, st_19, st_20, st_21, st_22, st_23, st_24, st_25, st_26, st_27, st_28, st_29, st_30, st_31, st_32, st_33, st_34, st_34a, st_35, st_36, st_37, st_38, st_39, st_42, st_44, st_45, st_47, st_40, st_41, st_46, st_48, st_49, st_43, go_0, go_s, cut_0, cut_s, get_0, get_s, put_0, put_1, put_s, clr_0, clr_s, unl_i, unl_l, unl_r, unl_n, nth_0, nth_s, sf_0, sf_s, cnd_0, cnd_1, cnd_2, cnd_3, cnd_4, cnd_5, fit_0, fit_1, fit_2, en_0, en_i, en_l, en_r, kb_t, kb_f, kb_n, sw_0, sw_s, ↓reduceIte, Nat.reduceEqDiff, Nat.left_eq_add, Nat.add_eq_left, Nat.add_left_cancel_iff, Nat.reduceAdd, Int.reduceLT, Int.reduceLE, Int.reduceAdd, Int.reduceSub, Int.reduceNeg, Int.reduceMul, Int.reduceToNat, Int.reduceEq, reduceCtorEq, true_and, and_true, true_or, or_true, and_false, false_and, or_false, false_or, not_true_eq_false, not_false_eq_true, Nat.le_refl, and_self, Sum.inl.injEq, Sum.inr.injEq, Option.some.injEq, hS_2, k_isref, pd_0, pd_s, List.cons_append, List.nil_append, Option.toList_none, Option.toList_some, tX9_isReady, rX9_isReady, h1, e, e2]
  | succ j ih =>
    intro i hi
    have e : ¬ (sz : Int) ≤ i := by omega
    refine p_go [2] 40 ?_
    have hih := ih (i + 1) (by omega)
    unfold rdyL
    by_cases hz : wn i = 0
    · rw [if_pos hz, if_neg (fun c => by cases c.1)]
      simp only [st_0, st_1, st_2, st_3, st_4, st_5, st_6, st_7, st_8, st_9, st_10, st_11, st_12, st_13, st_14, st_15, st_16, st_17, st_18, st_19, st_20, st_21, st_22, st_23, st_24, st_25, st_26, st_27, st_28, st_29, st_30, st_31, st_32, st_33, st_34, st_34a, st_35, st_36, st_37, st_38, st_39, st_42, st_44, st_45, st_47, st_40, st_41, st_46, st_48, st_49, st_43, go_0, go_s, cut_0, cut_s, get_0, get_s, put_0, put_1, put_s, clr_0, clr_s, unl_i, unl_l, unl_r, unl_n, nth_0, nth_s, sf_0, sf_s, cnd_0, cnd_1, cnd_2, cnd_3, cnd_4, cnd_5, fit_0, fit_1, fit_2, en_0, en_i, en_l, en_r, kb_t, kb_f, kb_n, sw_0, sw_s, ↓reduceIte, Nat.reduceEqDiff, Nat.left_eq_add, Nat.add_eq_left, Nat.add_left_cancel_iff, Nat.reduceAdd, Int.reduceLT, Int.reduceLE, Int.reduceAdd, Int.reduceSub, Int.reduceNeg, Int.reduceMul, Int.reduceToNat, Int.reduceEq, reduceCtorEq, true_and, and_true, true_or, or_true, and_false, false_and, or_false, false_or, not_true_eq_false, not_false_eq_true, Nat.le_refl, and_self, Sum.inl.injEq, Sum.inr.injEq, Option.some.injEq, hS_2, k_isref, pd_0, pd_s, List.cons_append, List.nil_append, Option.toList_none, Option.toList_some, tX9_isReady, rX9_isReady, h1, h4, e, hz, Int.toNat_natCast]
      exact ⟨by omega, by omega⟩
    · rw [if_neg hz]
      simp only [st_0, st_1, st_2, st_3, st_4, st_5, st_6, st_7, st_8, st_9, st_10, st_11, st_12, st_13, st_14, st_15, st_16, st_17, st_18, st_19, st_20, st_21, st_22, st_23, st_24, st_25, st_26, st_27, st_28, st_29, st_30, st_31, st_32, st_33, st_34, st_34a, st_35, st_36, st_37, st_38, st_39, st_42, st_44, st_45, st_47, st_40, st_41, st_46, st_48, st_49, st_43, go_0, go_s, cut_0, cut_s, get_0, get_s, put_0, put_1, put_s, clr_0, clr_s, unl_i, unl_l, unl_r, unl_n, nth_0, nth_s, sf_0, sf_s, cnd_0, cnd_1, cnd_2, cnd_3, cnd_4, cnd_5, fit_0, fit_1, fit_2, en_0, en_i, en_l, en_r, kb_t, kb_f, kb_n, sw_0, sw_s, ↓reduceIte, Nat.reduceEqDiff, Nat.left_eq_add, Nat.add_eq_left, Nat.add_left_cancel_iff, Nat.reduceAdd, Int.reduceLT, Int.reduceLE, Int.reduceAdd, Int.reduceSub, Int.reduceNeg, Int.reduceMul, Int.reduceToNat, Int.reduceEq, reduceCtorEq, true_and, and_true, true_or, or_true, and_false, false_and, or_false, false_or, not_true_eq_false, not_false_eq_true, Nat.le_refl, and_self, Sum.inl.injEq, Sum.inr.injEq, Option.some.injEq, hS_2, k_isref, pd_0, pd_s, List.cons_append, List.nil_append, Option.toList_none, Option.toList_some, tX9_isReady, rX9_isReady, h1, h4, e, hz, Int.toNat_natCast, nat1]
      exact ⟨⟨by omega, by omega⟩, ⟨by omega, by omega⟩, hih⟩
set_option maxRecDepth 100000 in
set_option maxHeartbeats 4000000 in
theorem e_isReady (h1 : h.2 q = some (slO q sz wo kn ed)) (h4 : h.2 (q + 4) = some (cI 8 wn)) (hsz : sz ≤ 8) : k_Ev x d 0 0 mX9_isReady [vR q] h (fun o h' => o = rI (if rdyL wn sz 0 = 1 ∧ 2 ≤ sz then 1 else 0) ∧ h' = h) := by
  refine k_enp 1 (Nat.le_of_ble_eq_true rfl) (p_go [2] 40 ?_)
  simp only [st_0, st_1, st_2, st_3, st_4, st_5, st_6, st_7, st_8, st_9, st_10, st_11, st_12, st_13, st_14, st_15, st_16, st_17, st_18, st_19, st_20, st_21, st_22, st_23, st_24, st_25, st_26, st_27, st_28, st_29, st_30, st_31, st_32, st_33, st_34, st_34a, st_35, st_36, st_37, st_38, st_39, st_42, st_44, st_45, st_47, st_40, st_41, st_46, st_48, st_49, st_43, go_0, go_s, cut_0, cut_s, get_0, get_s, put_0, put_1, put_s, clr_0, clr_s, unl_i, unl_l, unl_r, unl_n, nth_0, nth_s, sf_0, sf_s, cnd_0, cnd_1, cnd_2, cnd_3, cnd_4, cnd_5, fit_0, fit_1, fit_2, en_0, en_i, en_l, en_r, kb_t, kb_f, kb_n, sw_0, sw_s, ↓reduceIte, Nat.reduceEqDiff, Nat.left_eq_add, Nat.add_eq_left, Nat.add_left_cancel_iff, Nat.reduceAdd, Int.reduceLT, Int.reduceLE, Int.reduceAdd, Int.reduceSub, Int.reduceNeg, Int.reduceMul, Int.reduceToNat, Int.reduceEq, reduceCtorEq, true_and, and_true, true_or, or_true, and_false, false_and, or_false, false_or, not_true_eq_false, not_false_eq_true, Nat.le_refl, and_self, Sum.inl.injEq, Sum.inr.injEq, Option.some.injEq, hS_2, k_isref, pd_0, pd_s, List.cons_append, List.nil_append, Option.toList_none, Option.toList_some, tX9_isReady, rX9_isReady]
  exact w_isReady h1 h4 hsz sz 0 (by omega)
/-- the least distance with those before -/
def lwL (G tr : F_) (one : Nat) : Nat → Nat → Int → Int
  | 0, _, m => m
  | j + 1, b, m => lwL G tr one j (b + 1) (if G (one * 32 + (b * 4 + (tr b).toNat)) < m then G (one * 32 + (b * 4 + (tr b).toNat)) else m)
set_option maxRecDepth 100000 in
set_option maxHeartbeats 4000000 in
theorem w_leastWith {slot one : Nat} {l0 : Int} (h1 : h.2 q = some (slO q sz wo kn ed)) (h5 : h.2 (q + 5) = some (cI 1024 gp)) (h6 : h.2 (q + 6) = some (cI 8 tr)) (hsl : slot ≤ 8) (hon : one < 32) (htr : ∀ b : Nat, b < slot → 0 ≤ tr b ∧ tr b < 4) (hd : 1 ≤ d) {m' : Int} : ∀ (j b : Nat) (m : Int), b + j = slot → lwL gp tr one j b m = m' →
    k_Wp x d 0 0 mX9_leastWith (fun o h' => o = rI m' ∧ h' = h) 0 0 6 [some (vR q), some (vI slot), some (vI one), some (vI l0), some (vI m), some (vI b), none] [] h := by
  intro j
  induction j with
  | zero =>
    intro b m hb hm
    have e : (slot : Int) ≤ b := by omega
    refine p_go [] 40 ?_
    simp only [st_0, st_1, st_2, st_3, st_4, st_5, st_6, st_7, st_8, st_9, st_10, st_11, st_12, st_13, st_14, st_15, st_16, st_17, st_18, st_19, st_20, st_21, st_22, st_23, st_24, st_25, st_26, st_27, st_28, st_29, st_30, st_31, st_32, st_33, st_34, st_34a, st_35, st_36, st_37, st_38, st_39, st_42, st_44, st_45, st_47, st_40, st_41, st_46, st_48, st_49, st_43, go_0, go_s, cut_0, cut_s, get_0, get_s, put_0, put_1, put_s, clr_0, clr_s, unl_i, unl_l, unl_r, unl_n, nth_0, nth_s, sf_0, sf_s, cnd_0, cnd_1, cnd_2, cnd_3, cnd_4, cnd_5, fit_0, fit_1, fit_2, en_0, en_i, en_l, en_r, kb_t, kb_f, kb_n, sw_0, sw_s, ↓reduceIte, Nat.reduceEqDiff, Nat.left_eq_add, Nat.add_eq_left, Nat.add_left_cancel_iff, Nat.reduceAdd, Int.reduceLT, Int.reduceLE, Int.reduceAdd, Int.reduceSub, Int.reduceNeg, Int.reduceMul, Int.reduceToNat, Int.reduceEq, reduceCtorEq, true_and, and_true, true_or, or_true, and_false, false_and, or_false, false_or, not_true_eq_false, not_false_eq_true, Nat.le_refl, and_self, Sum.inl.injEq, Sum.inr.injEq, Option.some.injEq, hS_2, k_isref, pd_0, pd_s, List.cons_append, List.nil_append, Option.toList_none, Option.toList_some, tX9_leastWith, rX9_leastWith, e]
    rw [← hm]; rfl
  | succ j ih =>
    intro b m hb hm
    have e : ¬ (slot : Int) ≤ b := by omega
    have ht := htr b (by omega)
    have e4 : (b : Int) * 4 + tr b = ((b * 4 + (tr b).toNat : Nat) : Int) := by omega
    have e5 : (one : Int) * 32 + ((b * 4 + (tr b).toNat : Nat) : Int) = ((one * 32 + (b * 4 + (tr b).toNat) : Nat) : Int) := by omega
    unfold lwL at hm
    have hih := ih (b + 1) _ (by omega) hm
    refine p_go [6] 40 ?_
    simp only [st_0, st_1, st_2, st_3, st_4, st_5, st_6, st_7, st_8, st_9, st_10, st_11, st_12, st_13, st_14, st_15, st_16, st_17, st_18, st_19, st_20, st_21, st_22, st_23, st_24, st_25, st_26, st_27, st_28, st_29, st_30, st_31, st_32, st_33, st_34, st_34a, st_35, st_36, st_37, st_38, st_39, st_42, st_44, st_45, st_47, st_40, st_41, st_46, st_48, st_49, st_43, go_0, go_s, cut_0, cut_s, get_0, get_s, put_0, put_1, put_s, clr_0, clr_s, unl_i, unl_l, unl_r, unl_n, nth_0, nth_s, sf_0, sf_s, cnd_0, cnd_1, cnd_2, cnd_3, cnd_4, cnd_5, fit_0, fit_1, fit_2, en_0, en_i, en_l, en_r, kb_t, kb_f, kb_n, sw_0, sw_s, ↓reduceIte, Nat.reduceEqDiff, Nat.left_eq_add, Nat.add_eq_left, Nat.add_left_cancel_iff, Nat.reduceAdd, Int.reduceLT, Int.reduceLE, Int.reduceAdd, Int.reduceSub, Int.reduceNeg, Int.reduceMul, Int.reduceToNat, Int.reduceEq, reduceCtorEq, true_and, and_true, true_or, or_true, and_false, false_and, or_false, false_or, not_true_eq_false, not_false_eq_true, Nat.le_refl, and_self, Sum.inl.injEq, Sum.inr.injEq, Option.some.injEq, hS_2, k_isref, pd_0, pd_s, List.cons_append, List.nil_append, Option.toList_none, Option.toList_some, tX9_leastWith, rX9_leastWith, h1, h5, h6, e, e4, e5, nat1, Int.toNat_natCast]
    exact ⟨⟨by omega, by omega⟩, ⟨by omega, by omega⟩, ⟨by omega, by omega⟩, ⟨by omega, by omega⟩, ⟨by omega, by omega⟩, ⟨by omega, by omega⟩, ⟨hd, Nat.le_of_ble_eq_true rfl⟩, ⟨by omega, by omega⟩, p_sub (by (repeat (first | exact le_nil | refine le_s ?_ | refine le_n ?_))) hih⟩
set_option maxRecDepth 100000 in
set_option maxHeartbeats 4000000 in
theorem e_leastWith {slot one : Nat} {l0 : Int} (h1 : h.2 q = some (slO q sz wo kn ed)) (h5 : h.2 (q + 5) = some (cI 1024 gp)) (h6 : h.2 (q + 6) = some (cI 8 tr)) (hsl : slot ≤ 8) (hon : one < 32) (htr : ∀ b : Nat, b < slot → 0 ≤ tr b ∧ tr b < 4) (hd : 1 ≤ d) : k_Ev x d 0 0 mX9_leastWith [vR q, vI slot, vI one, vI l0] h (fun o h' => o = rI (lwL gp tr one slot 0 l0) ∧ h' = h) := by
  refine k_enp 3 (Nat.le_of_ble_eq_true rfl) (p_go [6] 40 ?_)
  simp only [st_0, st_1, st_2, st_3, st_4, st_5, st_6, st_7, st_8, st_9, st_10, st_11, st_12, st_13, st_14, st_15, st_16, st_17, st_18, st_19, st_20, st_21, st_22, st_23, st_24, st_25, st_26, st_27, st_28, st_29, st_30, st_31, st_32, st_33, st_34, st_34a, st_35, st_36, st_37, st_38, st_39, st_42, st_44, st_45, st_47, st_40, st_41, st_46, st_48, st_49, st_43, go_0, go_s, cut_0, cut_s, get_0, get_s, put_0, put_1, put_s, clr_0, clr_s, unl_i, unl_l, unl_r, unl_n, nth_0, nth_s, sf_0, sf_s, cnd_0, cnd_1, cnd_2, cnd_3, cnd_4, cnd_5, fit_0, fit_1, fit_2, en_0, en_i, en_l, en_r, kb_t, kb_f, kb_n, sw_0, sw_s, ↓reduceIte, Nat.reduceEqDiff, Nat.left_eq_add, Nat.add_eq_left, Nat.add_left_cancel_iff, Nat.reduceAdd, Int.reduceLT, Int.reduceLE, Int.reduceAdd, Int.reduceSub, Int.reduceNeg, Int.reduceMul, Int.reduceToNat, Int.reduceEq, reduceCtorEq, true_and, and_true, true_or, or_true, and_false, false_and, or_false, false_or, not_true_eq_false, not_false_eq_true, Nat.le_refl, and_self, Sum.inl.injEq, Sum.inr.injEq, Option.some.injEq, hS_2, k_isref, pd_0, pd_s, List.cons_append, List.nil_append, Option.toList_none, Option.toList_some, tX9_leastWith, rX9_leastWith]
  exact w_leastWith h1 h5 h6 hsl hon htr hd slot 0 l0 (by omega) rfl
abbrev TS : Type := Int × F_ × F_
def tfL (rc : Int → TS → TS) (G : F_) (slot : Nat) (least : Int) : Nat → Nat → TS → TS
  | 0, _, T => T
  | j + 1, w, T => tfL rc G slot least j (w + 1) (if T.1 < lwL G T.2.1 (slot * 4 + w) slot 0 least then rc (lwL G T.2.1 (slot * 4 + w) slot 0 least) (T.1, fS T.2.1 slot w, T.2.2) else T)
def tf (sz : Nat) (wn G : F_) : Nat → Nat → Int → TS → TS
  | 0, _, least, T => (least, T.2.1, va_cpy T.2.1 T.2.2 0 0 sz)
  | n + 1, slot, least, T => tfL (fun l T => tf sz wn G n (slot + 1) l T) G slot least (wn slot).toNat 0 T
theorem tfL_lo {rc : Int → TS → TS} {G : F_} {slot b : Nat} {least : Int} (hr : ∀ l T, (rc l T).2.1 b = T.2.1 b) (hb : b < slot) : ∀ (j w : Nat) (T : TS), (tfL rc G slot least j w T).2.1 b = T.2.1 b
  | 0, _, T => rfl
  | j + 1, w, T => by
    unfold tfL
    rw [tfL_lo hr hb j (w + 1)]
    split
    · rw [hr]; exact fS_n (by omega)
    · rfl
theorem tf_lo {G : F_} {b : Nat} : ∀ (n slot : Nat) (least : Int) (T : TS), b < slot → (tf sz wn G n slot least T).2.1 b = T.2.1 b
  | 0, _, least, T, _ => rfl
  | n + 1, slot, least, T, hb => by
    unfold tf
    exact tfL_lo (fun l T => tf_lo n (slot + 1) l T (by omega)) hb _ _ _
/-- the heap with other trials -/
def slH (h : PH) (q sz : Nat) (kn ed : Int) (T : TS) : PH := hS (hS (hS h (q + 6) (cI 8 T.2.1)) (q + 7) (cI 8 T.2.2)) q (slO q sz T.1 kn ed)
theorem slH_n {T : TS} {z : Nat} (h1 : z ≠ q + 6) (h2 : z ≠ q + 7) (h3 : z ≠ q) : (slH h q sz kn ed T).2 z = h.2 z := (hS_n h3).trans ((hS_n h2).trans (hS_n h1))
theorem slH_q {T : TS} : (slH h q sz kn ed T).2 q = some (slO q sz T.1 kn ed) := hS_s _ _ _
theorem slH_6 {T : TS} : (slH h q sz kn ed T).2 (q + 6) = some (cI 8 T.2.1) := (hS_n (by omega)).trans ((hS_n (by omega)).trans (hS_s _ _ _))
theorem slH_7 {T : TS} : (slH h q sz kn ed T).2 (q + 7) = some (cI 8 T.2.2) := (hS_n (by omega)).trans (hS_s _ _ _)
theorem slH_tr {T : TS} {t2 : F_} : hS (slH h q sz kn ed T) (q + 6) (cI 8 t2) = slH h q sz kn ed (T.1, t2, T.2.2) := by
  unfold slH
  rw [hS_c (a := q) (b := q + 6) (by omega), hS_c (a := q + 7) (b := q + 6) (by omega), hS_hS]
theorem slH_ch {T : TS} {c2 : F_} : hS (slH h q sz kn ed T) (q + 7) (cI 8 c2) = slH h q sz kn ed (T.1, T.2.1, c2) := by
  unfold slH
  rw [hS_c (a := q) (b := q + 7) (by omega), hS_hS]
theorem slH_wo {T : TS} {w2 : Int} : hS (slH h q sz kn ed T) q (slO q sz w2 kn ed) = slH h q sz kn ed (w2, T.2.1, T.2.2) := hS_hS
set_option maxRecDepth 100000 in
set_option maxHeartbeats 4000000 in
theorem e_tryFrom (h4 : h.2 (q + 4) = some (cI 8 wn)) (h5 : h.2 (q + 5) = some (cI 1024 gp)) (hsz : sz ≤ 8) (hwn : ∀ s : Nat, s < 8 → 0 ≤ wn s ∧ wn s ≤ 4) : ∀ (n slot d : Nat) (least : Int) (T : TS), slot + n = sz → n + 2 ≤ d → (∀ b : Nat, b < slot → 0 ≤ T.2.1 b ∧ T.2.1 b < 4) →
    k_Ev x d 0 0 mX9_tryFrom [vR q, vI slot, vI least] (slH h q sz kn ed T) (fun o h' => o = rV ∧ h' = slH h q sz kn ed (tf sz wn gp n slot least T)) := by
  intro n
  induction n with
  | zero =>
    intro slot d least T hs hd htr
    have e : ¬ (slot : Int) < sz := by omega
    refine k_enp 2 (Nat.le_of_ble_eq_true rfl) (p_go [] 40 ?_)
    simp only [st_0, st_1, st_2, st_3, st_4, st_5, st_6, st_7, st_8, st_9, st_10, st_11, st_12, st_13, st_14, st_15, st_16, st_17, st_18, st_19, st_20, st_21, st_22, st_23, st_24, st_25, st_26, st_27, st_28, st_29, st_30, st_31, st_32, st_33, st_34, st_34a, st_35, st_36, st_37, st_38, st_39, st_42, st_44, st_45, st_47, st_40, st_41, st_46, st_48, st_49, st_43, go_0, go_s, cut_0, cut_s, get_0, get_s, put_0, put_1, put_s, clr_0, clr_s, unl_i, unl_l, unl_r, unl_n, nth_0, nth_s, sf_0, sf_s, cnd_0, cnd_1, cnd_2, cnd_3, cnd_4, cnd_5, fit_0, fit_1, fit_2, en_0, en_i, en_l, en_r, kb_t, kb_f, kb_n, sw_0, sw_s, ↓reduceIte, Nat.reduceEqDiff, Nat.left_eq_add, Nat.add_eq_left, Nat.add_left_cancel_iff, Nat.reduceAdd, Int.reduceLT, Int.reduceLE, Int.reduceAdd, Int.reduceSub, Int.reduceNeg, Int.reduceMul, Int.reduceToNat, Int.reduceEq, reduceCtorEq, true_and, and_true, true_or, or_true, and_false, false_and, or_false, false_or, not_true_eq_false, not_false_eq_true, Nat.le_refl, and_self, Sum.inl.injEq, Sum.inr.injEq, Option.some.injEq, hS_2, k_isref, pd_0, pd_s, List.cons_append, List.nil_append, Option.toList_none, Option.toList_some, tX9_tryFrom, rX9_tryFrom, slH_q, e]
    rw [show hS (slH h q sz kn ed T) q (Sum.inr (9, [vR (q + 1), vR (q + 4), vR (q + 5), vR (q + 6), vR (q + 7), vI sz, vI least, vI kn, vI ed])) = slH h q sz kn ed (least, T.2.1, T.2.2) from slH_wo]
    refine p_copy (by rfl) slH_6 slH_7 ?_ ?_ ?_ ?_ ?_ (by omega) ?_ (p_go [] 40 ?_)
    · omega
    · omega
    · omega
    · omega
    · omega
    · decide
    rw [show hS (slH h q sz kn ed (least, T.2.1, T.2.2)) (q + 7) (Sum.inl (0, 8, va_cpy T.2.1 T.2.2 (0 : Int).toNat (0 : Int).toNat ((sz : Nat) : Int).toNat)) = slH h q sz kn ed (tf sz wn gp 0 slot least T) from by rw [Int.toNat_natCast]; exact slH_ch]
    simp only [st_0, st_1, st_2, st_3, st_4, st_5, st_6, st_7, st_8, st_9, st_10, st_11, st_12, st_13, st_14, st_15, st_16, st_17, st_18, st_19, st_20, st_21, st_22, st_23, st_24, st_25, st_26, st_27, st_28, st_29, st_30, st_31, st_32, st_33, st_34, st_34a, st_35, st_36, st_37, st_38, st_39, st_42, st_44, st_45, st_47, st_40, st_41, st_46, st_48, st_49, st_43, go_0, go_s, cut_0, cut_s, get_0, get_s, put_0, put_1, put_s, clr_0, clr_s, unl_i, unl_l, unl_r, unl_n, nth_0, nth_s, sf_0, sf_s, cnd_0, cnd_1, cnd_2, cnd_3, cnd_4, cnd_5, fit_0, fit_1, fit_2, en_0, en_i, en_l, en_r, kb_t, kb_f, kb_n, sw_0, sw_s, ↓reduceIte, Nat.reduceEqDiff, Nat.left_eq_add, Nat.add_eq_left, Nat.add_left_cancel_iff, Nat.reduceAdd, Int.reduceLT, Int.reduceLE, Int.reduceAdd, Int.reduceSub, Int.reduceNeg, Int.reduceMul, Int.reduceToNat, Int.reduceEq, reduceCtorEq, true_and, and_true, true_or, or_true, and_false, false_and, or_false, false_or, not_true_eq_false, not_false_eq_true, Nat.le_refl, and_self, Sum.inl.injEq, Sum.inr.injEq, Option.some.injEq, hS_2, k_isref, pd_0, pd_s, List.cons_append, List.nil_append, Option.toList_none, Option.toList_some, tX9_tryFrom, rX9_tryFrom]
  | succ n ihn =>
    intro slot d least T hs hd htr
    have e : (slot : Int) < sz := by omega
    refine k_enp 2 (Nat.le_of_ble_eq_true rfl) (p_go [33] 40 ?_)
    simp only [st_0, st_1, st_2, st_3, st_4, st_5, st_6, st_7, st_8, st_9, st_10, st_11, st_12, st_13, st_14, st_15, st_16, st_17, st_18, st_19, st_20, st_21, st_22, st_23, st_24, st_25, st_26, st_27, st_28, st_29, st_30, st_31, st_32, st_33, st_34, st_34a, st_35, st_36, st_37, st_38, st_39, st_42, st_44, st_45, st_47, st_40, st_41, st_46, st_48, st_49, st_43, go_0, go_s, cut_0, cut_s, get_0, get_s, put_0, put_1, put_s, clr_0, clr_s, unl_i, unl_l, unl_r, unl_n, nth_0, nth_s, sf_0, sf_s, cnd_0, cnd_1, cnd_2, cnd_3, cnd_4, cnd_5, fit_0, fit_1, fit_2, en_0, en_i, en_l, en_r, kb_t, kb_f, kb_n, sw_0, sw_s, ↓reduceIte, Nat.reduceEqDiff, Nat.left_eq_add, Nat.add_eq_left, Nat.add_left_cancel_iff, Nat.reduceAdd, Int.reduceLT, Int.reduceLE, Int.reduceAdd, Int.reduceSub, Int.reduceNeg, Int.reduceMul, Int.reduceToNat, Int.reduceEq, reduceCtorEq, true_and, and_true, true_or, or_true, and_false, false_and, or_false, false_or, not_true_eq_false, not_false_eq_true, Nat.le_refl, and_self, Sum.inl.injEq, Sum.inr.injEq, Option.some.injEq, hS_2, k_isref, pd_0, pd_s, List.cons_append, List.nil_append, Option.toList_none, Option.toList_some, tX9_tryFrom, rX9_tryFrom, slH_q, e]
    have hwl : ∀ (j w : Nat) (T : TS), w + j = (wn slot).toNat → (∀ b : Nat, b < slot → 0 ≤ T.2.1 b ∧ T.2.1 b < 4) →
        k_Wp x d 0 0 mX9_tryFrom (fun o h' => o = rV ∧ h' = slH h q sz kn ed (tfL (fun l T => tf sz wn gp n (slot + 1) l T) gp slot least j w T)) 0 0 33 [some (vR q), some (vI slot), some (vI least), some (vI w), none] [] (slH h q sz kn ed T) := by
      have hw := hwn slot (by omega)
      intro j
      induction j with
      | zero =>
        intro w T hwj ht
        have e1 : wn slot ≤ (w : Int) := by omega
        have k4 : (slH h q sz kn ed T).2 (q + 4) = some (cI 8 wn) := (slH_n (by omega) (by omega) (by omega)).trans h4
        refine p_go [] 40 ?_
        simp only [st_0, st_1, st_2, st_3, st_4, st_5, st_6, st_7, st_8, st_9, st_10, st_11, st_12, st_13, st_14, st_15, st_16, st_17, st_18, st_19, st_20, st_21, st_22, st_23, st_24, st_25, st_26, st_27, st_28, st_29, st_30, st_31, st_32, st_33, st_34, st_34a, st_35, st_36, st_37, st_38, st_39, st_42, st_44, st_45, st_47, st_40, st_41, st_46, st_48, st_49, st_43, go_0, go_s, cut_0, cut_s, get_0, get_s, put_0, put_1, put_s, clr_0, clr_s, unl_i, unl_l, unl_r, unl_n, nth_0, nth_s, sf_0, sf_s, cnd_0, cnd_1, cnd_2, cnd_3, cnd_4, cnd_5, fit_0, fit_1, fit_2, en_0, en_i, en_l, en_r, kb_t, kb_f, kb_n, sw_0, sw_s, ↓reduceIte, Nat.reduceEqDiff, Nat.left_eq_add, Nat.add_eq_left, Nat.add_left_cancel_iff, Nat.reduceAdd, Int.reduceLT, Int.reduceLE, Int.reduceAdd, Int.reduceSub, Int.reduceNeg, Int.reduceMul, Int.reduceToNat, Int.reduceEq, reduceCtorEq, true_and, and_true, true_or, or_true, and_false, false_and, or_false, false_or, not_true_eq_false, not_false_eq_true, Nat.le_refl, and_self, Sum.inl.injEq, Sum.inr.injEq, Option.some.injEq, hS_2, k_isref, pd_0, pd_s, List.cons_append, List.nil_append, Option.toList_none, Option.toList_some, tX9_tryFrom, rX9_tryFrom, slH_q, k4, e1, Int.toNat_natCast]
        exact ⟨⟨by omega, by omega⟩, rfl⟩
      | succ j ihj =>
        intro w T hwj ht
        have e1 : ¬ wn slot ≤ (w : Int) := by omega
        have e4 : (slot : Int) * 4 + (w : Int) = ((slot * 4 + w : Nat) : Int) := by omega
        have k4 : (slH h q sz kn ed T).2 (q + 4) = some (cI 8 wn) := (slH_n (by omega) (by omega) (by omega)).trans h4
        have k5 : (slH h q sz kn ed T).2 (q + 5) = some (cI 1024 gp) := (slH_n (by omega) (by omega) (by omega)).trans h5
        unfold tfL
        refine p_go [] 40 ?_
        simp only [st_0, st_1, st_2, st_3, st_4, st_5, st_6, st_7, st_8, st_9, st_10, st_11, st_12, st_13, st_14, st_15, st_16, st_17, st_18, st_19, st_20, st_21, st_22, st_23, st_24, st_25, st_26, st_27, st_28, st_29, st_30, st_31, st_32, st_33, st_34, st_34a, st_35, st_36, st_37, st_38, st_39, st_42, st_44, st_45, st_47, st_40, st_41, st_46, st_48, st_49, st_43, go_0, go_s, cut_0, cut_s, get_0, get_s, put_0, put_1, put_s, clr_0, clr_s, unl_i, unl_l, unl_r, unl_n, nth_0, nth_s, sf_0, sf_s, cnd_0, cnd_1, cnd_2, cnd_3, cnd_4, cnd_5, fit_0, fit_1, fit_2, en_0, en_i, en_l, en_r, kb_t, kb_f, kb_n, sw_0, sw_s, ↓reduceIte, Nat.reduceEqDiff, Nat.left_eq_add, Nat.add_eq_left, Nat.add_left_cancel_iff, Nat.reduceAdd, Int.reduceLT, Int.reduceLE, Int.reduceAdd, Int.reduceSub, Int.reduceNeg, Int.reduceMul, Int.reduceToNat, Int.reduceEq, reduceCtorEq, true_and, and_true, true_or, or_true, and_false, false_and, or_false, false_or, not_true_eq_false, not_false_eq_true, Nat.le_refl, and_self, Sum.inl.injEq, Sum.inr.injEq, Option.some.injEq, hS_2, k_isref, pd_0, pd_s, List.cons_append, List.nil_append, Option.toList_none, Option.toList_some, tX9_tryFrom, rX9_tryFrom, slH_q, k4, e1, e4, Int.toNat_natCast]
        refine ⟨⟨by omega, by omega⟩, ⟨by omega, by omega⟩, ⟨by omega, by omega⟩, ?_⟩
        refine cV (d' := 1) [vI slot, vI ((slot * 4 + w : Nat) : Int), vI least] [] l_9_92 slH_q (e_leastWith slH_q k5 slH_6 (by omega) (by omega) ht (Nat.le_refl 1)) (by omega) (p_go [33] 40 ?_)
        by_cases hlt : T.1 < lwL gp T.2.1 (slot * 4 + w) slot 0 least
        · rw [if_pos hlt]
          have e7 : ¬ lwL gp T.2.1 (slot * 4 + w) slot 0 least ≤ T.1 := by omega
          simp only [st_0, st_1, st_2, st_3, st_4, st_5, st_6, st_7, st_8, st_9, st_10, st_11, st_12, st_13, st_14, st_15, st_16, st_17, st_18, st_19, st_20, st_21, st_22, st_23, st_24, st_25, st_26, st_27, st_28, st_29, st_30, st_31, st_32, st_33, st_34, st_34a, st_35, st_36, st_37, st_38, st_39, st_42, st_44, st_45, st_47, st_40, st_41, st_46, st_48, st_49, st_43, go_0, go_s, cut_0, cut_s, get_0, get_s, put_0, put_1, put_s, clr_0, clr_s, unl_i, unl_l, unl_r, unl_n, nth_0, nth_s, sf_0, sf_s, cnd_0, cnd_1, cnd_2, cnd_3, cnd_4, cnd_5, fit_0, fit_1, fit_2, en_0, en_i, en_l, en_r, kb_t, kb_f, kb_n, sw_0, sw_s, ↓reduceIte, Nat.reduceEqDiff, Nat.left_eq_add, Nat.add_eq_left, Nat.add_left_cancel_iff, Nat.reduceAdd, Int.reduceLT, Int.reduceLE, Int.reduceAdd, Int.reduceSub, Int.reduceNeg, Int.reduceMul, Int.reduceToNat, Int.reduceEq, reduceCtorEq, true_and, and_true, true_or, or_true, and_false, false_and, or_false, false_or, not_true_eq_false, not_false_eq_true, Nat.le_refl, and_self, Sum.inl.injEq, Sum.inr.injEq, Option.some.injEq, hS_2, k_isref, pd_0, pd_s, List.cons_append, List.nil_append, Option.toList_none, Option.toList_some, tX9_tryFrom, rX9_tryFrom, slH_q, slH_6, e7, nat1, Int.toNat_natCast]
          refine ⟨⟨by omega, by omega⟩, ⟨by omega, by omega⟩, ?_⟩
          rw [show hS (slH h q sz kn ed T) (q + 6) (Sum.inl (0, 8, fS T.2.1 slot w)) = slH h q sz kn ed (T.1, fS T.2.1 slot w, T.2.2) from slH_tr]
          refine cV (d' := d - 1) [vI ((slot + 1 : Nat) : Int), vI (lwL gp T.2.1 (slot * 4 + w) slot 0 least)] [] l_9_71 slH_q (ihn (slot + 1) (d - 1) _ _ (by omega) (by omega) (fun b hb => ?_)) (by omega) (p_go [33] 40 ?_)
          · simp only
            unfold fS
            split
            · omega
            · exact ht b (by omega)
          · simp only [st_0, st_1, st_2, st_3, st_4, st_5, st_6, st_7, st_8, st_9, st_10, st_11, st_12, st_13, st_14, st_15, st_16, st_17, st_18, st_19, st_20, st_21, st_22, st_23, st_24, st_25, st_26, st_27, st_28, st_29, st_30, st_31, st_32, st_33, st_34, st_34a, st_35, st_36, st_37, st_38, st_39, st_42, st_44, st_45, st_47, st_40, st_41, st_46, st_48, st_49, st_43, go_0, go_s, cut_0, cut_s, get_0, get_s, put_0, put_1, put_s, clr_0, clr_s, unl_i, unl_l, unl_r, unl_n, nth_0, nth_s, sf_0, sf_s, cnd_0, cnd_1, cnd_2, cnd_3, cnd_4, cnd_5, fit_0, fit_1, fit_2, en_0, en_i, en_l, en_r, kb_t, kb_f, kb_n, sw_0, sw_s, ↓reduceIte, Nat.reduceEqDiff, Nat.left_eq_add, Nat.add_eq_left, Nat.add_left_cancel_iff, Nat.reduceAdd, Int.reduceLT, Int.reduceLE, Int.reduceAdd, Int.reduceSub, Int.reduceNeg, Int.reduceMul, Int.reduceToNat, Int.reduceEq, reduceCtorEq, true_and, and_true, true_or, or_true, and_false, false_and, or_false, false_or, not_true_eq_false, not_false_eq_true, Nat.le_refl, and_self, Sum.inl.injEq, Sum.inr.injEq, Option.some.injEq, hS_2, k_isref, pd_0, pd_s, List.cons_append, List.nil_append, Option.toList_none, Option.toList_some, tX9_tryFrom, rX9_tryFrom, nat1]
            refine ⟨⟨by omega, by omega⟩, p_sub (by (repeat (first | exact le_nil | refine le_s ?_ | refine le_n ?_))) (ihj (w + 1) _ (by omega) (fun b hb => ?_))⟩
            rw [tf_lo n (slot + 1) _ _ (by omega)]
            simp only
            rw [fS_n (by omega)]
            exact ht b hb
        · rw [if_neg hlt]
          have e7 : lwL gp T.2.1 (slot * 4 + w) slot 0 least ≤ T.1 := by omega
          simp only [st_0, st_1, st_2, st_3, st_4, st_5, st_6, st_7, st_8, st_9, st_10, st_11, st_12, st_13, st_14, st_15, st_16, st_17, st_18, st_19, st_20, st_21, st_22, st_23, st_24, st_25, st_26, st_27, st_28, st_29, st_30, st_31, st_32, st_33, st_34, st_34a, st_35, st_36, st_37, st_38, st_39, st_42, st_44, st_45, st_47, st_40, st_41, st_46, st_48, st_49, st_43, go_0, go_s, cut_0, cut_s, get_0, get_s, put_0, put_1, put_s, clr_0, clr_s, unl_i, unl_l, unl_r, unl_n, nth_0, nth_s, sf_0, sf_s, cnd_0, cnd_1, cnd_2, cnd_3, cnd_4, cnd_5, fit_0, fit_1, fit_2, en_0, en_i, en_l, en_r, kb_t, kb_f, kb_n, sw_0, sw_s, ↓reduceIte, Nat.reduceEqDiff, Nat.left_eq_add, Nat.add_eq_left, Nat.add_left_cancel_iff, Nat.reduceAdd, Int.reduceLT, Int.reduceLE, Int.reduceAdd, Int.reduceSub, Int.reduceNeg, Int.reduceMul, Int.reduceToNat, Int.reduceEq, reduceCtorEq, true_and, and_true, true_or, or_true, and_false, false_and, or_false, false_or, not_true_eq_false, not_false_eq_true, Nat.le_refl, and_self, Sum.inl.injEq, Sum.inr.injEq, Option.some.injEq, hS_2, k_isref, pd_0, pd_s, List.cons_append, List.nil_append, Option.toList_none, Option.toList_some, tX9_tryFrom, rX9_tryFrom, slH_q, e7, nat1]
          exact ⟨⟨by omega, by omega⟩, p_sub (by (repeat (first | exact le_nil | refine le_s ?_ | refine le_n ?_))) (ihj (w + 1) T (by omega) ht)⟩
    exact hwl (wn slot).toNat 0 T (by omega) htr
end Slot40
