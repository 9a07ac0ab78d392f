/-! the reference: pairs, apart, pair, hear -/
section Mhear72
variable {x : Bool} {d : Nat} {h h0 : PH} {s C : F_} {P : PO → PH → Prop} {sd sm : F_} {sz : Nat}
set_option maxRecDepth 100000 in
set_option maxHeartbeats 4000000 in
theorem w_pairK (hc : cOk C) (h96 : h0.2 81 = some (cI 4800 sd)) (h97 : h0.2 82 = some (cI 120 sm)) (hO : smO sd sm sz) (hsz : sz ≤ 120) (h35 : s 35 = sz) (hsy : symN (fw C)) (hd : 3 ≤ d) : ∀ (j k : Nat) (S : Int × Int × Int) (h : PH) (t : F_), k + j = sz → Md h0 h t C → pE s t S →
    k_Wp x d 0 0 mX12_pairs (fun o h' => o = rV ∧ ∃ t', Md h0 h' t' C ∧ pE s t' (prP (gpM C sd sm) sz j k S)) 0 0 17 [some (vR 57), some (vI k), none, none] [] h := by
  intro j
  induction j with
  | zero =>
    intro k S h t hk hM hE
    have h1 := hM.2.1
    have e35 : t 35 = sz := (hE.2.2.2 35 (by decide) (by decide) (by decide) (by decide)).trans h35
    have e1 : t 35 ≤ (k : Int) := by omega
    refine p_go [] 40 ?_
    simp only [st_0, st_1, st_2, st_3, st_4, st_5, st_6, st_7, st_8, st_9, st_10, st_11, st_12, st_13, st_14, st_15, st_16, st_17, st_18, st_19, st_20, st_21, st_22, st_23, st_24, st_25, st_26, st_27, st_28, st_29, st_30, st_31, st_32, st_33, st_34, st_34a, st_35, st_36, st_37, st_38, st_39, st_42, st_44, st_45, st_47, st_40, st_41, st_46, st_48, st_49, st_43, go_0, go_s, cut_0, cut_s, get_0, get_s, put_0, put_1, put_s, clr_0, clr_s, unl_i, unl_l, unl_r, unl_n, nth_0, nth_s, sf_0, sf_s, cnd_0, cnd_1, cnd_2, cnd_3, cnd_4, cnd_5, fit_0, fit_1, fit_2, en_0, en_i, en_l, en_r, kb_t, kb_f, kb_n, sw_0, sw_s, ↓reduceIte, Nat.reduceEqDiff, Nat.left_eq_add, Nat.add_eq_left, Nat.add_left_cancel_iff, Nat.reduceAdd, Int.reduceLT, Int.reduceLE, Int.reduceAdd, Int.reduceSub, Int.reduceNeg, Int.reduceMul, Int.reduceToNat, Int.reduceEq, reduceCtorEq, true_and, and_true, true_or, or_true, and_false, false_and, or_false, false_or, not_true_eq_false, not_false_eq_true, Nat.le_refl, and_self, Sum.inl.injEq, Sum.inr.injEq, Option.some.injEq, hS_2, k_isref, pd_0, pd_s, List.cons_append, List.nil_append, Option.toList_none, Option.toList_some, tX12_pairs, rX12_pairs, h1, e1]
    exact ⟨t, hM, hE⟩
  | succ j ih =>
    intro k S h t hk hM hE
    have h1 := hM.2.1
    have e35 : t 35 = sz := (hE.2.2.2 35 (by decide) (by decide) (by decide) (by decide)).trans h35
    have e1 : ¬ t 35 ≤ (k : Int) := by omega
    unfold prP
    refine p_go [29] 40 ?_
    simp only [st_0, st_1, st_2, st_3, st_4, st_5, st_6, st_7, st_8, st_9, st_10, st_11, st_12, st_13, st_14, st_15, st_16, st_17, st_18, st_19, st_20, st_21, st_22, st_23, st_24, st_25, st_26, st_27, st_28, st_29, st_30, st_31, st_32, st_33, st_34, st_34a, st_35, st_36, st_37, st_38, st_39, st_42, st_44, st_45, st_47, st_40, st_41, st_46, st_48, st_49, st_43, go_0, go_s, cut_0, cut_s, get_0, get_s, put_0, put_1, put_s, clr_0, clr_s, unl_i, unl_l, unl_r, unl_n, nth_0, nth_s, sf_0, sf_s, cnd_0, cnd_1, cnd_2, cnd_3, cnd_4, cnd_5, fit_0, fit_1, fit_2, en_0, en_i, en_l, en_r, kb_t, kb_f, kb_n, sw_0, sw_s, ↓reduceIte, Nat.reduceEqDiff, Nat.left_eq_add, Nat.add_eq_left, Nat.add_left_cancel_iff, Nat.reduceAdd, Int.reduceLT, Int.reduceLE, Int.reduceAdd, Int.reduceSub, Int.reduceNeg, Int.reduceMul, Int.reduceToNat, Int.reduceEq, reduceCtorEq, true_and, and_true, true_or, or_true, and_false, false_and, or_false, false_or, not_true_eq_false, not_false_eq_true, Nat.le_refl, and_self, Sum.inl.injEq, Sum.inr.injEq, Option.some.injEq, hS_2, k_isref, pd_0, pd_s, List.cons_append, List.nil_append, Option.toList_none, Option.toList_some, tX12_pairs, rX12_pairs, h1, e1, nat1]
    refine ⟨⟨by omega, by omega⟩, ?_⟩
    refine w_pairL hc h96 h97 hO hsz h35 hsy hd (by omega) (fun S' => S' = prL (gpM C sd sm k) k (sz - (k + 1)) (k + 1) S) (fun S' h' t' hS' hM' hE' => p_go [17] 40 ?_) (sz - (k + 1)) (k + 1) S h t (by omega) hM hE rfl
    subst hS'
    simp only [st_0, st_1, st_2, st_3, st_4, st_5, st_6, st_7, st_8, st_9, st_10, st_11, st_12, st_13, st_14, st_15, st_16, st_17, st_18, st_19, st_20, st_21, st_22, st_23, st_24, st_25, st_26, st_27, st_28, st_29, st_30, st_31, st_32, st_33, st_34, st_34a, st_35, st_36, st_37, st_38, st_39, st_42, st_44, st_45, st_47, st_40, st_41, st_46, st_48, st_49, st_43, go_0, go_s, cut_0, cut_s, get_0, get_s, put_0, put_1, put_s, clr_0, clr_s, unl_i, unl_l, unl_r, unl_n, nth_0, nth_s, sf_0, sf_s, cnd_0, cnd_1, cnd_2, cnd_3, cnd_4, cnd_5, fit_0, fit_1, fit_2, en_0, en_i, en_l, en_r, kb_t, kb_f, kb_n, sw_0, sw_s, ↓reduceIte, Nat.reduceEqDiff, Nat.left_eq_add, Nat.add_eq_left, Nat.add_left_cancel_iff, Nat.reduceAdd, Int.reduceLT, Int.reduceLE, Int.reduceAdd, Int.reduceSub, Int.reduceNeg, Int.reduceMul, Int.reduceToNat, Int.reduceEq, reduceCtorEq, true_and, and_true, true_or, or_true, and_false, false_and, or_false, false_or, not_true_eq_false, not_false_eq_true, Nat.le_refl, and_self, Sum.inl.injEq, Sum.inr.injEq, Option.some.injEq, hS_2, k_isref, pd_0, pd_s, List.cons_append, List.nil_append, Option.toList_none, Option.toList_some, tX12_pairs, rX12_pairs, nat1]
    exact ⟨⟨by omega, by omega⟩, p_sub (by (repeat (first | exact le_nil | refine le_s ?_ | refine le_n ?_))) (ih (k + 1) _ h' t' (by omega) hM' hE')⟩
/-- apart and the pair, as the reference finds them -/
def prM (C sd sm : F_) (sz : Nat) : Int × Int × Int := prP (gpM C sd sm) sz sz 0 (-1, -1, -1)
set_option maxRecDepth 100000 in
set_option maxHeartbeats 4000000 in
theorem e_pairs (hM : Md h0 h s C) (hc : cOk C) (h96 : h0.2 81 = some (cI 4800 sd)) (h97 : h0.2 82 = some (cI 120 sm)) (hO : smO sd sm sz) (hsz : sz ≤ 120) (h35 : s 35 = sz) (hsy : symN (fw C)) (hd : 3 ≤ d) :
    k_Ev x d 0 0 mX12_pairs [vR 57] h (fun o h' => o = rV ∧ ∃ t', Md h0 h' t' C ∧ pE s t' (prM C sd sm sz)) := by
  have h1 := hM.2.1
  refine k_enp 3 (Nat.le_of_ble_eq_true rfl) (p_go [17] 40 ?_)
  simp only [st_0, st_1, st_2, st_3, st_4, st_5, st_6, st_7, st_8, st_9, st_10, st_11, st_12, st_13, st_14, st_15, st_16, st_17, st_18, st_19, st_20, st_21, st_22, st_23, st_24, st_25, st_26, st_27, st_28, st_29, st_30, st_31, st_32, st_33, st_34, st_34a, st_35, st_36, st_37, st_38, st_39, st_42, st_44, st_45, st_47, st_40, st_41, st_46, st_48, st_49, st_43, go_0, go_s, cut_0, cut_s, get_0, get_s, put_0, put_1, put_s, clr_0, clr_s, unl_i, unl_l, unl_r, unl_n, nth_0, nth_s, sf_0, sf_s, cnd_0, cnd_1, cnd_2, cnd_3, cnd_4, cnd_5, fit_0, fit_1, fit_2, en_0, en_i, en_l, en_r, kb_t, kb_f, kb_n, sw_0, sw_s, ↓reduceIte, Nat.reduceEqDiff, Nat.left_eq_add, Nat.add_eq_left, Nat.add_left_cancel_iff, Nat.reduceAdd, Int.reduceLT, Int.reduceLE, Int.reduceAdd, Int.reduceSub, Int.reduceNeg, Int.reduceMul, Int.reduceToNat, Int.reduceEq, reduceCtorEq, true_and, and_true, true_or, or_true, and_false, false_and, or_false, false_or, not_true_eq_false, not_false_eq_true, Nat.le_refl, and_self, Sum.inl.injEq, Sum.inr.injEq, Option.some.injEq, hS_2, k_isref, pd_0, pd_s, List.cons_append, List.nil_append, Option.toList_none, Option.toList_some, tX12_pairs, rX12_pairs, h1, hS_hS]
  exact w_pairK hc h96 h97 hO hsz h35 hsy hd sz 0 (-1, -1, -1) _ _ (by omega) (hM.put (t := mS (mS (mS s 42 (-1)) 43 (-1)) 44 (-1)) rfl) ⟨rfl, rfl, rfl, fun i i1 i2 i3 i4 => (mS_n i4).trans ((mS_n i3).trans (mS_n i2))⟩
set_option maxRecDepth 100000 in
set_option maxHeartbeats 4000000 in
theorem e_mapart (hM : Md h0 h s C) (hc : cOk C) (h96 : h0.2 81 = some (cI 4800 sd)) (h97 : h0.2 82 = some (cI 120 sm)) (hO : smO sd sm sz) (hsz : sz ≤ 120) (h35 : s 35 = sz) (hsy : symN (fw C)) (hd : 4 ≤ d) :
    k_Ev x d 0 0 mX12_apart [vR 57] h (fun o h' => o = rI (prM C sd sm sz).1 ∧ ∃ t', Md h0 h' t' C ∧ pE (mS s 0 0) t' (prM C sd sm sz)) := by
  have h1 := hM.2.1
  have k1 : (hS h 57 (mO (mS s 0 0))).2 57 = some (mO (mS s 0 0)) := hS_s _ _ _
  refine k_enp 0 (Nat.le_of_ble_eq_true rfl) (p_go [] 40 ?_)
  simp only [st_0, st_1, st_2, st_3, st_4, st_5, st_6, st_7, st_8, st_9, st_10, st_11, st_12, st_13, st_14, st_15, st_16, st_17, st_18, st_19, st_20, st_21, st_22, st_23, st_24, st_25, st_26, st_27, st_28, st_29, st_30, st_31, st_32, st_33, st_34, st_34a, st_35, st_36, st_37, st_38, st_39, st_42, st_44, st_45, st_47, st_40, st_41, st_46, st_48, st_49, st_43, go_0, go_s, cut_0, cut_s, get_0, get_s, put_0, put_1, put_s, clr_0, clr_s, unl_i, unl_l, unl_r, unl_n, nth_0, nth_s, sf_0, sf_s, cnd_0, cnd_1, cnd_2, cnd_3, cnd_4, cnd_5, fit_0, fit_1, fit_2, en_0, en_i, en_l, en_r, kb_t, kb_f, kb_n, sw_0, sw_s, ↓reduceIte, Nat.reduceEqDiff, Nat.left_eq_add, Nat.add_eq_left, Nat.add_left_cancel_iff, Nat.reduceAdd, Int.reduceLT, Int.reduceLE, Int.reduceAdd, Int.reduceSub, Int.reduceNeg, Int.reduceMul, Int.reduceToNat, Int.reduceEq, reduceCtorEq, true_and, and_true, true_or, or_true, and_false, false_and, or_false, false_or, not_true_eq_false, not_false_eq_true, Nat.le_refl, and_self, Sum.inl.injEq, Sum.inr.injEq, Option.some.injEq, hS_2, k_isref, pd_0, pd_s, List.cons_append, List.nil_append, Option.toList_none, Option.toList_some, tX12_apart, rX12_apart, h1]
  refine cVQ (d' := 3) [] [] l_12_243 k1 (e_pairs (hM.put (t := mS s 0 0) rfl) hc h96 h97 hO hsz h35 hsy (Nat.le_refl 3)) (by omega) ?_ (fun E h' q => by cases q.1)
  intro r1 h2 ⟨q1, t', q2, q3⟩
  cases q1
  have k2 := q2.2.1
  have e44 := q3.2.2.1
  refine p_go [] 40 ?_
  simp only [st_0, st_1, st_2, st_3, st_4, st_5, st_6, st_7, st_8, st_9, st_10, st_11, st_12, st_13, st_14, st_15, st_16, st_17, st_18, st_19, st_20, st_21, st_22, st_23, st_24, st_25, st_26, st_27, st_28, st_29, st_30, st_31, st_32, st_33, st_34, st_34a, st_35, st_36, st_37, st_38, st_39, st_42, st_44, st_45, st_47, st_40, st_41, st_46, st_48, st_49, st_43, go_0, go_s, cut_0, cut_s, get_0, get_s, put_0, put_1, put_s, clr_0, clr_s, unl_i, unl_l, unl_r, unl_n, nth_0, nth_s, sf_0, sf_s, cnd_0, cnd_1, cnd_2, cnd_3, cnd_4, cnd_5, fit_0, fit_1, fit_2, en_0, en_i, en_l, en_r, kb_t, kb_f, kb_n, sw_0, sw_s, ↓reduceIte, Nat.reduceEqDiff, Nat.left_eq_add, Nat.add_eq_left, Nat.add_left_cancel_iff, Nat.reduceAdd, Int.reduceLT, Int.reduceLE, Int.reduceAdd, Int.reduceSub, Int.reduceNeg, Int.reduceMul, Int.reduceToNat, Int.reduceEq, reduceCtorEq, true_and, and_true, true_or, or_true, and_false, false_and, or_false, false_or, not_true_eq_false, not_false_eq_true, Nat.le_refl, and_self, Sum.inl.injEq, Sum.inr.injEq, Option.some.injEq, hS_2, k_isref, pd_0, pd_s, List.cons_append, List.nil_append, Option.toList_none, Option.toList_some, tX12_apart, rX12_apart, k2]
  exact ⟨by rw [e44], t', q2, q3⟩
set_option maxRecDepth 100000 in
set_option maxHeartbeats 4000000 in
theorem e_mpair {w : Int} (hM : Md h0 h s C) (hc : cOk C) (h96 : h0.2 81 = some (cI 4800 sd)) (h97 : h0.2 82 = some (cI 120 sm)) (hO : smO sd sm sz) (hsz : sz ≤ 120) (h35 : s 35 = sz) (hsy : symN (fw C)) (hd : 4 ≤ d)
    (c1 : ¬ (w = 0 ∨ w = 1) → P (rI 0) (hS h 57 (mO (mS s 0 1))))
    (c2 : w = 0 ∨ w = 1 → ∀ h' t', Md h0 h' t' C → pE (mS s 0 0) t' (prM C sd sm sz) → P (rI (if w = 0 then (prM C sd sm sz).2.1 else (prM C sd sm sz).2.2)) h') :
    k_Ev x d 0 0 mX12_pair [vR 57, vI w] h P := by
  have h1 := hM.2.1
  have k1 : (hS h 57 (mO (mS s 0 0))).2 57 = some (mO (mS s 0 0)) := hS_s _ _ _
  have hb : ∀ t : Int, (t = 0 ∧ (w = 0 ∨ w = 1)) ∨ (t = 1 ∧ ¬ (w = 0 ∨ w = 1)) → k_Wp x d 0 0 mX12_pair P 0 0 20 [some (vR 57), some (vI w)] [vI t, vR 57] (hS h 57 (mO (mS s 0 0))) := by
    intro t ht
    refine p_go [] 40 ?_
    simp only [st_0, st_1, st_2, st_3, st_4, st_5, st_6, st_7, st_8, st_9, st_10, st_11, st_12, st_13, st_14, st_15, st_16, st_17, st_18, st_19, st_20, st_21, st_22, st_23, st_24, st_25, st_26, st_27, st_28, st_29, st_30, st_31, st_32, st_33, st_34, st_34a, st_35, st_36, st_37, st_38, st_39, st_42, st_44, st_45, st_47, st_40, st_41, st_46, st_48, st_49, st_43, go_0, go_s, cut_0, cut_s, get_0, get_s, put_0, put_1, put_s, clr_0, clr_s, unl_i, unl_l, unl_r, unl_n, nth_0, nth_s, sf_0, sf_s, cnd_0, cnd_1, cnd_2, cnd_3, cnd_4, cnd_5, fit_0, fit_1, fit_2, en_0, en_i, en_l, en_r, kb_t, kb_f, kb_n, sw_0, sw_s, ↓reduceIte, Nat.reduceEqDiff, Nat.left_eq_add, Nat.add_eq_left, Nat.add_left_cancel_iff, Nat.reduceAdd, Int.reduceLT, Int.reduceLE, Int.reduceAdd, Int.reduceSub, Int.reduceNeg, Int.reduceMul, Int.reduceToNat, Int.reduceEq, reduceCtorEq, true_and, and_true, true_or, or_true, and_false, false_and, or_false, false_or, not_true_eq_false, not_false_eq_true, Nat.le_refl, and_self, Sum.inl.injEq, Sum.inr.injEq, Option.some.injEq, hS_2, k_isref, pd_0, pd_s, List.cons_append, List.nil_append, Option.toList_none, Option.toList_some, tX12_pair, rX12_pair]
    refine cV (d' := 0) [vI t, vI 1] [] l_12_125 k1 (e_bad k1 (by omega)) (by omega) (p_go [] 40 ?_)
    rcases ht with ⟨rfl, hv⟩ | ⟨rfl, hv⟩
    · rw [if_pos rfl, mS_id rfl, hS_hS]
      simp only [st_0, st_1, st_2, st_3, st_4, st_5, st_6, st_7, st_8, st_9, st_10, st_11, st_12, st_13, st_14, st_15, st_16, st_17, st_18, st_19, st_20, st_21, st_22, st_23, st_24, st_25, st_26, st_27, st_28, st_29, st_30, st_31, st_32, st_33, st_34, st_34a, st_35, st_36, st_37, st_38, st_39, st_42, st_44, st_45, st_47, st_40, st_41, st_46, st_48, st_49, st_43, go_0, go_s, cut_0, cut_s, get_0, get_s, put_0, put_1, put_s, clr_0, clr_s, unl_i, unl_l, unl_r, unl_n, nth_0, nth_s, sf_0, sf_s, cnd_0, cnd_1, cnd_2, cnd_3, cnd_4, cnd_5, fit_0, fit_1, fit_2, en_0, en_i, en_l, en_r, kb_t, kb_f, kb_n, sw_0, sw_s, ↓reduceIte, Nat.reduceEqDiff, Nat.left_eq_add, Nat.add_eq_left, Nat.add_left_cancel_iff, Nat.reduceAdd, Int.reduceLT, Int.reduceLE, Int.reduceAdd, Int.reduceSub, Int.reduceNeg, Int.reduceMul, Int.reduceToNat, Int.reduceEq, reduceCtorEq, true_and, and_true, true_or, or_true, and_false, false_and, or_false, false_or, not_true_eq_false, not_false_eq_true, Nat.le_refl, and_self, Sum.inl.injEq, Sum.inr.injEq, Option.some.injEq, hS_2, k_isref, pd_0, pd_s, List.cons_append, List.nil_append, Option.toList_none, Option.toList_some, tX12_pair, rX12_pair]
      refine cVQ (d' := 3) [] [] l_12_243 k1 (e_pairs (hM.put (t := mS s 0 0) rfl) hc h96 h97 hO hsz h35 hsy (Nat.le_refl 3)) (by omega) ?_ (fun E h' q => by cases q.1)
      intro r1 h2 ⟨q1, t', q2, q3⟩
      cases q1
      have hl := c2 hv h2 t' q2 q3
      have k2 := q2.2.1
      have e42 := q3.1
      have e43 := q3.2.1
      rw [← e42, ← e43] at hl
      refine p_go [] 40 ?_
      simp only [st_0, st_1, st_2, st_3, st_4, st_5, st_6, st_7, st_8, st_9, st_10, st_11, st_12, st_13, st_14, st_15, st_16, st_17, st_18, st_19, st_20, st_21, st_22, st_23, st_24, st_25, st_26, st_27, st_28, st_29, st_30, st_31, st_32, st_33, st_34, st_34a, st_35, st_36, st_37, st_38, st_39, st_42, st_44, st_45, st_47, st_40, st_41, st_46, st_48, st_49, st_43, go_0, go_s, cut_0, cut_s, get_0, get_s, put_0, put_1, put_s, clr_0, clr_s, unl_i, unl_l, unl_r, unl_n, nth_0, nth_s, sf_0, sf_s, cnd_0, cnd_1, cnd_2, cnd_3, cnd_4, cnd_5, fit_0, fit_1, fit_2, en_0, en_i, en_l, en_r, kb_t, kb_f, kb_n, sw_0, sw_s, ↓reduceIte, Nat.reduceEqDiff, Nat.left_eq_add, Nat.add_eq_left, Nat.add_left_cancel_iff, Nat.reduceAdd, Int.reduceLT, Int.reduceLE, Int.reduceAdd, Int.reduceSub, Int.reduceNeg, Int.reduceMul, Int.reduceToNat, Int.reduceEq, reduceCtorEq, true_and, and_true, true_or, or_true, and_false, false_and, or_false, false_or, not_true_eq_false, not_false_eq_true, Nat.le_refl, and_self, Sum.inl.injEq, Sum.inr.injEq, Option.some.injEq, hS_2, k_isref, pd_0, pd_s, List.cons_append, List.nil_append, Option.toList_none, Option.toList_some, tX12_pair, rX12_pair, k2]
      refine k_brI (fun c => ?_) (fun c => ?_)
      · rw [if_pos c] at hl
        exact hl
      · rw [if_neg c] at hl
        exact hl
    · rw [if_neg (by decide), hS_hS, mS_mS]
      simp only [st_0, st_1, st_2, st_3, st_4, st_5, st_6, st_7, st_8, st_9, st_10, st_11, st_12, st_13, st_14, st_15, st_16, st_17, st_18, st_19, st_20, st_21, st_22, st_23, st_24, st_25, st_26, st_27, st_28, st_29, st_30, st_31, st_32, st_33, st_34, st_34a, st_35, st_36, st_37, st_38, st_39, st_42, st_44, st_45, st_47, st_40, st_41, st_46, st_48, st_49, st_43, go_0, go_s, cut_0, cut_s, get_0, get_s, put_0, put_1, put_s, clr_0, clr_s, unl_i, unl_l, unl_r, unl_n, nth_0, nth_s, sf_0, sf_s, cnd_0, cnd_1, cnd_2, cnd_3, cnd_4, cnd_5, fit_0, fit_1, fit_2, en_0, en_i, en_l, en_r, kb_t, kb_f, kb_n, sw_0, sw_s, ↓reduceIte, Nat.reduceEqDiff, Nat.left_eq_add, Nat.add_eq_left, Nat.add_left_cancel_iff, Nat.reduceAdd, Int.reduceLT, Int.reduceLE, Int.reduceAdd, Int.reduceSub, Int.reduceNeg, Int.reduceMul, Int.reduceToNat, Int.reduceEq, reduceCtorEq, true_and, and_true, true_or, or_true, and_false, false_and, or_false, false_or, not_true_eq_false, not_false_eq_true, Nat.le_refl, and_self, Sum.inl.injEq, Sum.inr.injEq, Option.some.injEq, hS_2, k_isref, pd_0, pd_s, List.cons_append, List.nil_append, Option.toList_none, Option.toList_some, tX12_pair, rX12_pair]
      exact c1 hv
  refine k_enp 0 (Nat.le_of_ble_eq_true rfl) (p_go [20] 40 ?_)
  simp only [st_0, st_1, st_2, st_3, st_4, st_5, st_6, st_7, st_8, st_9, st_10, st_11, st_12, st_13, st_14, st_15, st_16, st_17, st_18, st_19, st_20, st_21, st_22, st_23, st_24, st_25, st_26, st_27, st_28, st_29, st_30, st_31, st_32, st_33, st_34, st_34a, st_35, st_36, st_37, st_38, st_39, st_42, st_44, st_45, st_47, st_40, st_41, st_46, st_48, st_49, st_43, go_0, go_s, cut_0, cut_s, get_0, get_s, put_0, put_1, put_s, clr_0, clr_s, unl_i, unl_l, unl_r, unl_n, nth_0, nth_s, sf_0, sf_s, cnd_0, cnd_1, cnd_2, cnd_3, cnd_4, cnd_5, fit_0, fit_1, fit_2, en_0, en_i, en_l, en_r, kb_t, kb_f, kb_n, sw_0, sw_s, ↓reduceIte, Nat.reduceEqDiff, Nat.left_eq_add, Nat.add_eq_left, Nat.add_left_cancel_iff, Nat.reduceAdd, Int.reduceLT, Int.reduceLE, Int.reduceAdd, Int.reduceSub, Int.reduceNeg, Int.reduceMul, Int.reduceToNat, Int.reduceEq, reduceCtorEq, true_and, and_true, true_or, or_true, and_false, false_and, or_false, false_or, not_true_eq_false, not_false_eq_true, Nat.le_refl, and_self, Sum.inl.injEq, Sum.inr.injEq, Option.some.injEq, hS_2, k_isref, pd_0, pd_s, List.cons_append, List.nil_append, Option.toList_none, Option.toList_some, tX12_pair, rX12_pair, h1]
  refine k_brI (fun c => hb 1 (Or.inr ⟨rfl, by omega⟩)) (fun c => k_brI (fun c2 => hb 0 (Or.inl ⟨rfl, by omega⟩)) (fun c2 => hb 1 (Or.inr ⟨rfl, by omega⟩)))
/-- hearing, one by one: first, far, second, next -/
def wgm (S : HS) (k gp : Int) : HS := if S.1 < 0 ∨ gp < S.2.1 then (k, gp, S.1, S.2.1) else if S.2.2.1 < 0 ∨ gp < S.2.2.2 then (S.1, S.2.1, k, gp) else S
def hrL (gp : Nat → Int) : Nat → Nat → HS → HS
  | 0, _, S => S
  | j + 1, k, S => hrL gp j (k + 1) (wgm S k (gp k))
abbrev gpH (C hf sd sm : F_) (hm : Nat) (l : Nat) : Int := ds (fw C) (sdf hf 0) hm (sdf sd (40 * l)) (sm l).toNat
set_option maxRecDepth 100000 in
set_option maxHeartbeats 4000000 in
theorem w_mhear {hf : F_} {hm : Nat} {T : HS} (hc : cOk C) (h76 : h0.2 61 = some (cI 40 hf)) (h96 : h0.2 81 = some (cI 4800 sd)) (h97 : h0.2 82 = some (cI 120 sm)) (hO : smO sd sm sz) (hsz : sz ≤ 120) (h35 : s 35 = sz) (h6 : s 6 = hm) (hhm : hm ≤ 40) (hvh : rvd hf 0 hm) (hsy : symN (fw C)) (hd : 2 ≤ d)
    (kk : ∀ S h t, S = T → Md h0 h t C → (∀ i, i ≠ 3 → t i = s i) → k_Wp x d 0 0 mX12_hear P 0 0 114 [some (vR 57), some (vI S.1), some (vI S.2.2.1), some (vI S.2.1), some (vI S.2.2.2), none, none] [] h) : ∀ (j k : Nat) (S : HS) (h : PH) (t : F_), k + j = sz → Md h0 h t C → (∀ i, i ≠ 3 → t i = s i) → hrL (gpH C hf sd sm hm) j k S = T →
    k_Wp x d 0 0 mX12_hear P 0 0 26 [some (vR 57), some (vI S.1), some (vI S.2.2.1), some (vI S.2.1), some (vI S.2.2.2), some (vI k), none] [] h := by
  intro j
  induction j with
  | zero =>
    intro k S h t hk hM hE hq
    have h1 := hM.2.1
    have e35 : t 35 = sz := (hE 35 (by decide)).trans h35
    have e1 : t 35 ≤ (k : Int) := by omega
    refine p_go [114] 40 ?_
    simp only [st_0, st_1, st_2, st_3, st_4, st_5, st_6, st_7, st_8, st_9, st_10, st_11, st_12, st_13, st_14, st_15, st_16, st_17, st_18, st_19, st_20, st_21, st_22, st_23, st_24, st_25, st_26, st_27, st_28, st_29, st_30, st_31, st_32, st_33, st_34, st_34a, st_35, st_36, st_37, st_38, st_39, st_42, st_44, st_45, st_47, st_40, st_41, st_46, st_48, st_49, st_43, go_0, go_s, cut_0, cut_s, get_0, get_s, put_0, put_1, put_s, clr_0, clr_s, unl_i, unl_l, unl_r, unl_n, nth_0, nth_s, sf_0, sf_s, cnd_0, cnd_1, cnd_2, cnd_3, cnd_4, cnd_5, fit_0, fit_1, fit_2, en_0, en_i, en_l, en_r, kb_t, kb_f, kb_n, sw_0, sw_s, ↓reduceIte, Nat.reduceEqDiff, Nat.left_eq_add, Nat.add_eq_left, Nat.add_left_cancel_iff, Nat.reduceAdd, Int.reduceLT, Int.reduceLE, Int.reduceAdd, Int.reduceSub, Int.reduceNeg, Int.reduceMul, Int.reduceToNat, Int.reduceEq, reduceCtorEq, true_and, and_true, true_or, or_true, and_false, false_and, or_false, false_or, not_true_eq_false, not_false_eq_true, Nat.le_refl, and_self, Sum.inl.injEq, Sum.inr.injEq, Option.some.injEq, hS_2, k_isref, pd_0, pd_s, List.cons_append, List.nil_append, Option.toList_none, Option.toList_some, tX12_hear, rX12_hear, h1, e1]
    exact p_sub (by (repeat (first | exact le_nil | refine le_s ?_ | refine le_n ?_))) (kk S h t hq hM hE)
  | succ j ih =>
    intro k S h t hk hM hE hq
    have h1 := hM.2.1
    have e35 : t 35 = sz := (hE 35 (by decide)).trans h35
    have e6 : t 6 = hm := (hE 6 (by decide)).trans h6
    have e1 : ¬ t 35 ≤ (k : Int) := by omega
    have k97 := (hM.2.2.2.2 82 (by decide) (by decide) (by decide)).trans h97
    have b1 := hO.1 k (by omega)
    obtain ⟨n, en⟩ : ∃ n : Nat, sm k = (n : Int) := ⟨(sm k).toNat, by omega⟩
    have v1 := hO.2 k (by omega)
    have e2 : (40 : Int) * k = ((40 * k : Nat) : Int) := by omega
    unfold hrL at hq
    have hgp : gpH C hf sd sm hm k = ds (fw C) (sdf hf 0) hm (sdf sd (40 * k)) n := by
      unfold gpH
      rw [en, Int.toNat_natCast]
    rw [hgp] at hq
    have hev := e_mdist' (x := x) (d := 1) (A := 61) (B := 81) (fr := 0) (st := 40 * k) (n := hm) (m := n) hM hc h76 h96 (by decide) (by decide) (by omega) (by omega) (by omega) (by omega) (by omega) (by omega) hvh (by rw [← en]; exact v1) hsy (Nat.le_refl 1)
    generalize ds (fw C) (sdf hf 0) hm (sdf sd (40 * k)) n = v at hq hev
    refine p_go [] 40 ?_
    simp only [st_0, st_1, st_2, st_3, st_4, st_5, st_6, st_7, st_8, st_9, st_10, st_11, st_12, st_13, st_14, st_15, st_16, st_17, st_18, st_19, st_20, st_21, st_22, st_23, st_24, st_25, st_26, st_27, st_28, st_29, st_30, st_31, st_32, st_33, st_34, st_34a, st_35, st_36, st_37, st_38, st_39, st_42, st_44, st_45, st_47, st_40, st_41, st_46, st_48, st_49, st_43, go_0, go_s, cut_0, cut_s, get_0, get_s, put_0, put_1, put_s, clr_0, clr_s, unl_i, unl_l, unl_r, unl_n, nth_0, nth_s, sf_0, sf_s, cnd_0, cnd_1, cnd_2, cnd_3, cnd_4, cnd_5, fit_0, fit_1, fit_2, en_0, en_i, en_l, en_r, kb_t, kb_f, kb_n, sw_0, sw_s, ↓reduceIte, Nat.reduceEqDiff, Nat.left_eq_add, Nat.add_eq_left, Nat.add_left_cancel_iff, Nat.reduceAdd, Int.reduceLT, Int.reduceLE, Int.reduceAdd, Int.reduceSub, Int.reduceNeg, Int.reduceMul, Int.reduceToNat, Int.reduceEq, reduceCtorEq, true_and, and_true, true_or, or_true, and_false, false_and, or_false, false_or, not_true_eq_false, not_false_eq_true, Nat.le_refl, and_self, Sum.inl.injEq, Sum.inr.injEq, Option.some.injEq, hS_2, k_isref, pd_0, pd_s, List.cons_append, List.nil_append, Option.toList_none, Option.toList_some, tX12_hear, rX12_hear, h1, e1, k97, en, e2, e6, Int.toNat_natCast]
    refine ⟨⟨by omega, by omega⟩, ⟨by omega, by omega⟩, ?_⟩
    refine cVQ (d' := 1) [vR 61, vI ((0 : Nat) : Int), vI hm, vR 81, vI ((40 * k : Nat) : Int), vI n] [] l_12_227 h1 hev (by omega) ?_ (fun E h' q => by cases q.1)
    intro r1 h2 ⟨q1, q2⟩
    cases q1
    have hih := fun S' hS' => ih (k + 1) S' h2 (mS t 3 1) (by omega) q2 (fun i i1 => (mS_n i1).trans (hE i i1)) hS'
    unfold wgm at hq
    refine p_go [26] 40 ?_
    by_cases c1 : S.1 < 0 ∨ v < S.2.1
    · rw [if_pos c1] at hq
      have hl := hih _ hq
      simp only [st_0, st_1, st_2, st_3, st_4, st_5, st_6, st_7, st_8, st_9, st_10, st_11, st_12, st_13, st_14, st_15, st_16, st_17, st_18, st_19, st_20, st_21, st_22, st_23, st_24, st_25, st_26, st_27, st_28, st_29, st_30, st_31, st_32, st_33, st_34, st_34a, st_35, st_36, st_37, st_38, st_39, st_42, st_44, st_45, st_47, st_40, st_41, st_46, st_48, st_49, st_43, go_0, go_s, cut_0, cut_s, get_0, get_s, put_0, put_1, put_s, clr_0, clr_s, unl_i, unl_l, unl_r, unl_n, nth_0, nth_s, sf_0, sf_s, cnd_0, cnd_1, cnd_2, cnd_3, cnd_4, cnd_5, fit_0, fit_1, fit_2, en_0, en_i, en_l, en_r, kb_t, kb_f, kb_n, sw_0, sw_s, ↓reduceIte, Nat.reduceEqDiff, Nat.left_eq_add, Nat.add_eq_left, Nat.add_left_cancel_iff, Nat.reduceAdd, Int.reduceLT, Int.reduceLE, Int.reduceAdd, Int.reduceSub, Int.reduceNeg, Int.reduceMul, Int.reduceToNat, Int.reduceEq, reduceCtorEq, true_and, and_true, true_or, or_true, and_false, false_and, or_false, false_or, not_true_eq_false, not_false_eq_true, Nat.le_refl, and_self, Sum.inl.injEq, Sum.inr.injEq, Option.some.injEq, hS_2, k_isref, pd_0, pd_s, List.cons_append, List.nil_append, Option.toList_none, Option.toList_some, tX12_hear, rX12_hear, nat1]
      refine k_brI (fun g => ⟨⟨by omega, by omega⟩, p_sub (by (repeat (first | exact le_nil | refine le_s ?_ | refine le_n ?_))) hl⟩) (fun g => k_brI (fun g2 => by omega) (fun g2 => ⟨⟨by omega, by omega⟩, p_sub (by (repeat (first | exact le_nil | refine le_s ?_ | refine le_n ?_))) hl⟩))
    · rw [if_neg c1] at hq
      have g1 : ¬ S.1 < 0 := by omega
      have g2 : S.2.1 ≤ v := by omega
      by_cases c2 : S.2.2.1 < 0 ∨ v < S.2.2.2
      · rw [if_pos c2] at hq
        have hl := hih _ hq
        simp only [st_0, st_1, st_2, st_3, st_4, st_5, st_6, st_7, st_8, st_9, st_10, st_11, st_12, st_13, st_14, st_15, st_16, st_17, st_18, st_19, st_20, st_21, st_22, st_23, st_24, st_25, st_26, st_27, st_28, st_29, st_30, st_31, st_32, st_33, st_34, st_34a, st_35, st_36, st_37, st_38, st_39, st_42, st_44, st_45, st_47, st_40, st_41, st_46, st_48, st_49, st_43, go_0, go_s, cut_0, cut_s, get_0, get_s, put_0, put_1, put_s, clr_0, clr_s, unl_i, unl_l, unl_r, unl_n, nth_0, nth_s, sf_0, sf_s, cnd_0, cnd_1, cnd_2, cnd_3, cnd_4, cnd_5, fit_0, fit_1, fit_2, en_0, en_i, en_l, en_r, kb_t, kb_f, kb_n, sw_0, sw_s, ↓reduceIte, Nat.reduceEqDiff, Nat.left_eq_add, Nat.add_eq_left, Nat.add_left_cancel_iff, Nat.reduceAdd, Int.reduceLT, Int.reduceLE, Int.reduceAdd, Int.reduceSub, Int.reduceNeg, Int.reduceMul, Int.reduceToNat, Int.reduceEq, reduceCtorEq, true_and, and_true, true_or, or_true, and_false, false_and, or_false, false_or, not_true_eq_false, not_false_eq_true, Nat.le_refl, and_self, Sum.inl.injEq, Sum.inr.injEq, Option.some.injEq, hS_2, k_isref, pd_0, pd_s, List.cons_append, List.nil_append, Option.toList_none, Option.toList_some, tX12_hear, rX12_hear, nat1, g1, g2]
        refine k_brI (fun g => ⟨⟨by omega, by omega⟩, p_sub (by (repeat (first | exact le_nil | refine le_s ?_ | refine le_n ?_))) hl⟩) (fun g => k_brI (fun g2 => by omega) (fun g2 => ⟨⟨by omega, by omega⟩, p_sub (by (repeat (first | exact le_nil | refine le_s ?_ | refine le_n ?_))) hl⟩))
      · rw [if_neg c2] at hq
        have hl := hih _ hq
        have g3 : ¬ S.2.2.1 < 0 := by omega
        have g4 : S.2.2.2 ≤ v := by omega
        simp only [st_0, st_1, st_2, st_3, st_4, st_5, st_6, st_7, st_8, st_9, st_10, st_11, st_12, st_13, st_14, st_15, st_16, st_17, st_18, st_19, st_20, st_21, st_22, st_23, st_24, st_25, st_26, st_27, st_28, st_29, st_30, st_31, st_32, st_33, st_34, st_34a, st_35, st_36, st_37, st_38, st_39, st_42, st_44, st_45, st_47, st_40, st_41, st_46, st_48, st_49, st_43, go_0, go_s, cut_0, cut_s, get_0, get_s, put_0, put_1, put_s, clr_0, clr_s, unl_i, unl_l, unl_r, unl_n, nth_0, nth_s, sf_0, sf_s, cnd_0, cnd_1, cnd_2, cnd_3, cnd_4, cnd_5, fit_0, fit_1, fit_2, en_0, en_i, en_l, en_r, kb_t, kb_f, kb_n, sw_0, sw_s, ↓reduceIte, Nat.reduceEqDiff, Nat.left_eq_add, Nat.add_eq_left, Nat.add_left_cancel_iff, Nat.reduceAdd, Int.reduceLT, Int.reduceLE, Int.reduceAdd, Int.reduceSub, Int.reduceNeg, Int.reduceMul, Int.reduceToNat, Int.reduceEq, reduceCtorEq, true_and, and_true, true_or, or_true, and_false, false_and, or_false, false_or, not_true_eq_false, not_false_eq_true, Nat.le_refl, and_self, Sum.inl.injEq, Sum.inr.injEq, Option.some.injEq, hS_2, k_isref, pd_0, pd_s, List.cons_append, List.nil_append, Option.toList_none, Option.toList_some, tX12_hear, rX12_hear, nat1, g1, g2, g3, g4]
        exact ⟨⟨by omega, by omega⟩, p_sub (by (repeat (first | exact le_nil | refine le_s ?_ | refine le_n ?_))) hl⟩
abbrev mhS (s : F_) (S : HS) : F_ := mS (mS (mS (mS (mS s 6 0) 45 S.1) 46 S.2.1) 47 S.2.2.1) 48 S.2.2.2
set_option maxRecDepth 100000 in
set_option maxHeartbeats 4000000 in
theorem e_mhear {hf : F_} {hm : Nat} (hM : Md h0 h s C) (hc : cOk C) (h76 : h0.2 61 = some (cI 40 hf)) (h96 : h0.2 81 = some (cI 4800 sd)) (h97 : h0.2 82 = some (cI 120 sm)) (hO : smO sd sm sz) (hsz : sz ≤ 120) (h35 : s 35 = sz) (h6 : s 6 = hm) (hhm : hm ≤ 40) (hvh : rvd hf 0 hm) (hsy : symN (fw C)) (hd : 2 ≤ d)
    (c1 : sz = 0 → P (rI (-1)) (hS h 57 (mO (mS s 0 0))))
    (c2 : sz ≠ 0 → ∀ h' t', Md h0 h' t' C → (∀ i, i ≠ 3 → t' i = mS s 0 0 i) → P (rI (hrL (gpH C hf sd sm hm) sz 0 (-1, 0, -1, 0)).1) (hS h' 57 (mO (mhS t' (hrL (gpH C hf sd sm hm) sz 0 (-1, 0, -1, 0)))))) :
    k_Ev x d 0 0 mX12_hear [vR 57] h P := by
  have h1 := hM.2.1
  refine k_enp 6 (Nat.le_of_ble_eq_true rfl) (p_go [26] 40 ?_)
  by_cases hz : sz = 0
  · have e1 : (s 35 = 0) = True := eq_true (by omega)
    simp only [st_0, st_1, st_2, st_3, st_4, st_5, st_6, st_7, st_8, st_9, st_10, st_11, st_12, st_13, st_14, st_15, st_16, st_17, st_18, st_19, st_20, st_21, st_22, st_23, st_24, st_25, st_26, st_27, st_28, st_29, st_30, st_31, st_32, st_33, st_34, st_34a, st_35, st_36, st_37, st_38, st_39, st_42, st_44, st_45, st_47, st_40, st_41, st_46, st_48, st_49, st_43, go_0, go_s, cut_0, cut_s, get_0, get_s, put_0, put_1, put_s, clr_0, clr_s, unl_i, unl_l, unl_r, unl_n, nth_0, nth_s, sf_0, sf_s, cnd_0, cnd_1, cnd_2, cnd_3, cnd_4, cnd_5, fit_0, fit_1, fit_2, en_0, en_i, en_l, en_r, kb_t, kb_f, kb_n, sw_0, sw_s, ↓reduceIte, Nat.reduceEqDiff, Nat.left_eq_add, Nat.add_eq_left, Nat.add_left_cancel_iff, Nat.reduceAdd, Int.reduceLT, Int.reduceLE, Int.reduceAdd, Int.reduceSub, Int.reduceNeg, Int.reduceMul, Int.reduceToNat, Int.reduceEq, reduceCtorEq, true_and, and_true, true_or, or_true, and_false, false_and, or_false, false_or, not_true_eq_false, not_false_eq_true, Nat.le_refl, and_self, Sum.inl.injEq, Sum.inr.injEq, Option.some.injEq, hS_2, k_isref, pd_0, pd_s, List.cons_append, List.nil_append, Option.toList_none, Option.toList_some, tX12_hear, rX12_hear, h1, e1]
    exact c1 hz
  · have e1 : (s 35 = 0) = False := eq_false (by omega)
    simp only [st_0, st_1, st_2, st_3, st_4, st_5, st_6, st_7, st_8, st_9, st_10, st_11, st_12, st_13, st_14, st_15, st_16, st_17, st_18, st_19, st_20, st_21, st_22, st_23, st_24, st_25, st_26, st_27, st_28, st_29, st_30, st_31, st_32, st_33, st_34, st_34a, st_35, st_36, st_37, st_38, st_39, st_42, st_44, st_45, st_47, st_40, st_41, st_46, st_48, st_49, st_43, go_0, go_s, cut_0, cut_s, get_0, get_s, put_0, put_1, put_s, clr_0, clr_s, unl_i, unl_l, unl_r, unl_n, nth_0, nth_s, sf_0, sf_s, cnd_0, cnd_1, cnd_2, cnd_3, cnd_4, cnd_5, fit_0, fit_1, fit_2, en_0, en_i, en_l, en_r, kb_t, kb_f, kb_n, sw_0, sw_s, ↓reduceIte, Nat.reduceEqDiff, Nat.left_eq_add, Nat.add_eq_left, Nat.add_left_cancel_iff, Nat.reduceAdd, Int.reduceLT, Int.reduceLE, Int.reduceAdd, Int.reduceSub, Int.reduceNeg, Int.reduceMul, Int.reduceToNat, Int.reduceEq, reduceCtorEq, true_and, and_true, true_or, or_true, and_false, false_and, or_false, false_or, not_true_eq_false, not_false_eq_true, Nat.le_refl, and_self, Sum.inl.injEq, Sum.inr.injEq, Option.some.injEq, hS_2, k_isref, pd_0, pd_s, List.cons_append, List.nil_append, Option.toList_none, Option.toList_some, tX12_hear, rX12_hear, h1, e1]
    refine w_mhear (s := mS s 0 0) hc h76 h96 h97 hO hsz h35 h6 hhm hvh hsy hd ?_ sz 0 (-1, 0, -1, 0) _ (mS s 0 0) (by omega) (hM.put (t := mS s 0 0) rfl) (fun i hi => rfl) rfl
    intro S h' t' hS hM' hE'
    have hl := c2 hz h' t' hM' hE'
    rw [← hS] at hl
    have k1 := hM'.2.1
    refine p_go [] 40 ?_
    simp only [st_0, st_1, st_2, st_3, st_4, st_5, st_6, st_7, st_8, st_9, st_10, st_11, st_12, st_13, st_14, st_15, st_16, st_17, st_18, st_19, st_20, st_21, st_22, st_23, st_24, st_25, st_26, st_27, st_28, st_29, st_30, st_31, st_32, st_33, st_34, st_34a, st_35, st_36, st_37, st_38, st_39, st_42, st_44, st_45, st_47, st_40, st_41, st_46, st_48, st_49, st_43, go_0, go_s, cut_0, cut_s, get_0, get_s, put_0, put_1, put_s, clr_0, clr_s, unl_i, unl_l, unl_r, unl_n, nth_0, nth_s, sf_0, sf_s, cnd_0, cnd_1, cnd_2, cnd_3, cnd_4, cnd_5, fit_0, fit_1, fit_2, en_0, en_i, en_l, en_r, kb_t, kb_f, kb_n, sw_0, sw_s, ↓reduceIte, Nat.reduceEqDiff, Nat.left_eq_add, Nat.add_eq_left, Nat.add_left_cancel_iff, Nat.reduceAdd, Int.reduceLT, Int.reduceLE, Int.reduceAdd, Int.reduceSub, Int.reduceNeg, Int.reduceMul, Int.reduceToNat, Int.reduceEq, reduceCtorEq, true_and, and_true, true_or, or_true, and_false, false_and, or_false, false_or, not_true_eq_false, not_false_eq_true, Nat.le_refl, and_self, Sum.inl.injEq, Sum.inr.injEq, Option.some.injEq, hS_2, k_isref, pd_0, pd_s, List.cons_append, List.nil_append, Option.toList_none, Option.toList_some, tX12_hear, rX12_hear, k1, hS_hS]
    exact hl
end Mhear72
