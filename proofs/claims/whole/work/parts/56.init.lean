/-! constructors: Costs, Measure, Nearest, Parser -/
/-- the costs at the start -/
def c0_ : F_ := fun i => if i / 17 = i % 17 then 0 else 100
theorem c0_ok : cOk c0_ := by
  refine ⟨fun k hk => ?_, fun i hi => ?_⟩
  · unfold c0_
    rw [if_pos (by omega)]
  · unfold c0_
    split <;> omega
theorem flF_e {v : Int} : ∀ (j i : Nat) (f : F_) (k : Nat), flF v j i f k = if i ≤ k ∧ k < i + j then v else f k
  | 0, i, f, k => by unfold flF; rw [if_neg (by omega)]
  | j + 1, i, f, k => by
    unfold flF
    rw [flF_e j (i + 1) (fS f i v) k]
    by_cases e : k = i
    · subst e
      rw [if_neg (by omega), if_pos (by omega), fS_s]
    · rw [fS_n e]
      by_cases c : i + 1 ≤ k ∧ k < i + 1 + j
      · rw [if_pos c, if_pos (by omega)]
      · rw [if_neg c, if_neg (by omega)]
section Init56
variable {d : Nat} {h : PH}
set_option maxRecDepth 100000 in
set_option maxHeartbeats 4000000 in
theorem e_iPars {q r : Nat} (h1 : h.2 q = some (cO 6 (k_df 6))) (hd : 1 ≤ d) : k_Ev true d 0 0 mX6_init [vR q, vR r] h (fun o h' => o = rV ∧ h' = hS h q (cO 6 [vR r, vI 0, vI 0, vI 0])) := by
  have h1 : h.2 q = some (cO 6 [vN, vI 0, vI 0, vI 0]) := h1
  refine k_enp 0 (Nat.le_of_ble_eq_true rfl) (p_go [] 40 ?_)
  simp only [st_0, st_1, st_2, st_3, st_4, st_5, st_6, st_7, st_8, st_9, st_10, st_11, st_12, st_13, st_14, st_15, st_16, st_17, st_18, st_19, st_20, st_21, st_22, st_23, st_24, st_25, st_26, st_27, st_28, st_29, st_30, st_31, st_32, st_33, st_34, st_34a, st_35, st_36, st_37, st_38, st_39, st_42, st_44, st_45, st_47, st_40, st_41, st_46, st_48, st_49, st_43, go_0, go_s, cut_0, cut_s, get_0, get_s, put_0, put_1, put_s, clr_0, clr_s, unl_i, unl_l, unl_r, unl_n, nth_0, nth_s, sf_0, sf_s, cnd_0, cnd_1, cnd_2, cnd_3, cnd_4, cnd_5, fit_0, fit_1, fit_2, en_0, en_i, en_l, en_r, kb_t, kb_f, kb_n, sw_0, sw_s, ↓reduceIte, Nat.reduceEqDiff, Nat.left_eq_add, Nat.add_eq_left, Nat.add_left_cancel_iff, Nat.reduceAdd, Int.reduceLT, Int.reduceLE, Int.reduceAdd, Int.reduceSub, Int.reduceNeg, Int.reduceMul, Int.reduceToNat, Int.reduceEq, reduceCtorEq, true_and, and_true, true_or, or_true, and_false, false_and, or_false, false_or, not_true_eq_false, not_false_eq_true, Nat.le_refl, and_self, Sum.inl.injEq, Sum.inr.injEq, Option.some.injEq, hS_2, k_isref, pd_0, pd_s, List.cons_append, List.nil_append, Option.toList_none, Option.toList_some, tX6_init, rX6_init, h1]
  exact ⟨hd, by decide⟩
set_option maxRecDepth 100000 in
set_option maxHeartbeats 4000000 in
theorem e_iNear {q : Nat} (h1 : h.2 q = some (cO 5 (k_df 5))) (hd : 1 ≤ d) : k_Ev true d 0 0 mX5_init [vR q] h (fun o h' => o = rV ∧ h' = hS h q (neO 0 0 (-1, -1, -1))) := by
  have h1 : h.2 q = some (cO 5 [vI 0, vI 0, vI 0, vI 0, vI 0]) := h1
  refine k_enp 0 (Nat.le_of_ble_eq_true rfl) (p_go [] 40 ?_)
  simp only [st_0, st_1, st_2, st_3, st_4, st_5, st_6, st_7, st_8, st_9, st_10, st_11, st_12, st_13, st_14, st_15, st_16, st_17, st_18, st_19, st_20, st_21, st_22, st_23, st_24, st_25, st_26, st_27, st_28, st_29, st_30, st_31, st_32, st_33, st_34, st_34a, st_35, st_36, st_37, st_38, st_39, st_42, st_44, st_45, st_47, st_40, st_41, st_46, st_48, st_49, st_43, go_0, go_s, cut_0, cut_s, get_0, get_s, put_0, put_1, put_s, clr_0, clr_s, unl_i, unl_l, unl_r, unl_n, nth_0, nth_s, sf_0, sf_s, cnd_0, cnd_1, cnd_2, cnd_3, cnd_4, cnd_5, fit_0, fit_1, fit_2, en_0, en_i, en_l, en_r, kb_t, kb_f, kb_n, sw_0, sw_s, ↓reduceIte, Nat.reduceEqDiff, Nat.left_eq_add, Nat.add_eq_left, Nat.add_left_cancel_iff, Nat.reduceAdd, Int.reduceLT, Int.reduceLE, Int.reduceAdd, Int.reduceSub, Int.reduceNeg, Int.reduceMul, Int.reduceToNat, Int.reduceEq, reduceCtorEq, true_and, and_true, true_or, or_true, and_false, false_and, or_false, false_or, not_true_eq_false, not_false_eq_true, Nat.le_refl, and_self, Sum.inl.injEq, Sum.inr.injEq, Option.some.injEq, hS_2, k_isref, pd_0, pd_s, List.cons_append, List.nil_append, Option.toList_none, Option.toList_some, tX5_init, rX5_init, h1, hS_hS]
  exact ⟨hd, by decide⟩
set_option maxRecDepth 100000 in
set_option maxHeartbeats 4000000 in
theorem e_table {x : Bool} {q : Nat} {C N : F_} {e s : Int} (hC : Cs h q C N e s) : k_Ev x d 0 0 mX0_table [vR q] h (fun o h' => o = rR (q + 2) ∧ h' = h) := by
  have h1 := hC.1
  refine k_enp 0 (Nat.le_of_ble_eq_true rfl) (p_go [] 40 ?_)
  simp only [st_0, st_1, st_2, st_3, st_4, st_5, st_6, st_7, st_8, st_9, st_10, st_11, st_12, st_13, st_14, st_15, st_16, st_17, st_18, st_19, st_20, st_21, st_22, st_23, st_24, st_25, st_26, st_27, st_28, st_29, st_30, st_31, st_32, st_33, st_34, st_34a, st_35, st_36, st_37, st_38, st_39, st_42, st_44, st_45, st_47, st_40, st_41, st_46, st_48, st_49, st_43, go_0, go_s, cut_0, cut_s, get_0, get_s, put_0, put_1, put_s, clr_0, clr_s, unl_i, unl_l, unl_r, unl_n, nth_0, nth_s, sf_0, sf_s, cnd_0, cnd_1, cnd_2, cnd_3, cnd_4, cnd_5, fit_0, fit_1, fit_2, en_0, en_i, en_l, en_r, kb_t, kb_f, kb_n, sw_0, sw_s, ↓reduceIte, Nat.reduceEqDiff, Nat.left_eq_add, Nat.add_eq_left, Nat.add_left_cancel_iff, Nat.reduceAdd, Int.reduceLT, Int.reduceLE, Int.reduceAdd, Int.reduceSub, Int.reduceNeg, Int.reduceMul, Int.reduceToNat, Int.reduceEq, reduceCtorEq, true_and, and_true, true_or, or_true, and_false, false_and, or_false, false_or, not_true_eq_false, not_false_eq_true, Nat.le_refl, and_self, Sum.inl.injEq, Sum.inr.injEq, Option.some.injEq, hS_2, k_isref, pd_0, pd_s, List.cons_append, List.nil_append, Option.toList_none, Option.toList_some, tX0_table, rX0_table, h1]
set_option maxRecDepth 100000 in
set_option maxHeartbeats 4000000 in
theorem w_iCost {q : Nat} {e s : Int} {K N : Nat} {P : PO → PH → Prop} {k n : Nat} (h1 : h.2 q = some (cO 0 [vR (q + 1), vR (q + 2), vI 0, vI 0])) (hk : k ≤ K) (hn : n ≤ N) : ∀ (j i : Nat) (f : F_), i + j = 17 → (∀ a, a < 289 → f a = if a / 17 = a % 17 ∧ a / 17 < i then 0 else 100) →
    P rV (hS (hS h (q + 1) (cI 289 c0_)) q (cO 0 [vR (q + 1), vR (q + 2), vI 0, vI 1])) →
    k_Wp true d K N mX0_init P k n 33 [some (vR q), some (vI i)] [] (hS h (q + 1) (cI 289 f)) := by
  intro j
  induction j with
  | zero =>
    intro i f hi hf hP
    have e1 : (17 : Int) ≤ i := by omega
    refine p_eqA c0_ (hS_s _ _ _) (by decide) (fun a ha => ?_) ?_
    · rw [hf a ha]
      unfold c0_
      by_cases c : a / 17 = a % 17
      · rw [if_pos c, if_pos ⟨c, by omega⟩]
      · rw [if_neg c, if_neg (fun w => c w.1)]
    · rw [hS_hS]
      have k1 : (hS h (q + 1) (cI 289 c0_)).2 q = some (cO 0 [vR (q + 1), vR (q + 2), vI 0, vI 0]) := (hS_n (by omega)).trans h1
      generalize hS h (q + 1) (cI 289 c0_) = h2 at k1 hP ⊢
      refine p_go [] 40 ?_
      simp only [st_0, st_1, st_2, st_3, st_4, st_5, st_6, st_7, st_8, st_9, st_10, st_11, st_12, st_13, st_14, st_15, st_16, st_17, st_18, st_19, st_20, st_21, st_22, st_23, st_24, st_25, st_26, st_27, st_28, st_29, st_30, st_31, st_32, st_33, st_34, st_34a, st_35, st_36, st_37, st_38, st_39, st_42, st_44, st_45, st_47, st_40, st_41, st_46, st_48, st_49, st_43, go_0, go_s, cut_0, cut_s, get_0, get_s, put_0, put_1, put_s, clr_0, clr_s, unl_i, unl_l, unl_r, unl_n, nth_0, nth_s, sf_0, sf_s, cnd_0, cnd_1, cnd_2, cnd_3, cnd_4, cnd_5, fit_0, fit_1, fit_2, en_0, en_i, en_l, en_r, kb_t, kb_f, kb_n, sw_0, sw_s, ↓reduceIte, Nat.reduceEqDiff, Nat.left_eq_add, Nat.add_eq_left, Nat.add_left_cancel_iff, Nat.reduceAdd, Int.reduceLT, Int.reduceLE, Int.reduceAdd, Int.reduceSub, Int.reduceNeg, Int.reduceMul, Int.reduceToNat, Int.reduceEq, reduceCtorEq, true_and, and_true, true_or, or_true, and_false, false_and, or_false, false_or, not_true_eq_false, not_false_eq_true, Nat.le_refl, and_self, Sum.inl.injEq, Sum.inr.injEq, Option.some.injEq, hS_2, k_isref, pd_0, pd_s, List.cons_append, List.nil_append, Option.toList_none, Option.toList_some, tX0_init, rX0_init, e1, k1]
      exact ⟨⟨hk, hn⟩, hP⟩
  | succ j ih =>
    intro i f hi hf hP
    have e1 : ¬ (17 : Int) ≤ i := by omega
    have e2 : ((i : Int) * 17 + i).toNat = 17 * i + i := by omega
    have hih := ih (i + 1) (fS f (17 * i + i) 0) (by omega) (fun a ha => by
      by_cases e : a = 17 * i + i
      · subst e; rw [fS_s, if_pos (by omega)]
      · rw [fS_n e, hf a ha]
        by_cases c : a / 17 = a % 17 ∧ a / 17 < i
        · rw [if_pos c, if_pos ⟨c.1, by omega⟩]
        · rw [if_neg c, if_neg (fun w => c ⟨w.1, by omega⟩)]) hP
    refine p_go [33] 40 ?_
    simp only [st_0, st_1, st_2, st_3, st_4, st_5, st_6, st_7, st_8, st_9, st_10, st_11, st_12, st_13, st_14, st_15, st_16, st_17, st_18, st_19, st_20, st_21, st_22, st_23, st_24, st_25, st_26, st_27, st_28, st_29, st_30, st_31, st_32, st_33, st_34, st_34a, st_35, st_36, st_37, st_38, st_39, st_42, st_44, st_45, st_47, st_40, st_41, st_46, st_48, st_49, st_43, go_0, go_s, cut_0, cut_s, get_0, get_s, put_0, put_1, put_s, clr_0, clr_s, unl_i, unl_l, unl_r, unl_n, nth_0, nth_s, sf_0, sf_s, cnd_0, cnd_1, cnd_2, cnd_3, cnd_4, cnd_5, fit_0, fit_1, fit_2, en_0, en_i, en_l, en_r, kb_t, kb_f, kb_n, sw_0, sw_s, ↓reduceIte, Nat.reduceEqDiff, Nat.left_eq_add, Nat.add_eq_left, Nat.add_left_cancel_iff, Nat.reduceAdd, Int.reduceLT, Int.reduceLE, Int.reduceAdd, Int.reduceSub, Int.reduceNeg, Int.reduceMul, Int.reduceToNat, Int.reduceEq, reduceCtorEq, true_and, and_true, true_or, or_true, and_false, false_and, or_false, false_or, not_true_eq_false, not_false_eq_true, Nat.le_refl, and_self, Sum.inl.injEq, Sum.inr.injEq, Option.some.injEq, hS_2, k_isref, pd_0, pd_s, List.cons_append, List.nil_append, Option.toList_none, Option.toList_some, tX0_init, rX0_init, e1, h1, e2, nat1, hS_hS]
    exact ⟨⟨by omega, by omega⟩, ⟨by omega, by omega⟩, ⟨by omega, by omega⟩, ⟨by omega, by omega⟩, hih⟩
set_option maxRecDepth 100000 in
set_option maxHeartbeats 4000000 in
theorem e_iCost {q : Nat} (hq : h.1 = q + 1) (h1 : h.2 q = some (cO 0 (k_df 0))) (hd : 2 ≤ d) : k_Ev true d 2 578 mX0_init [vR q] h (fun o h' => o = rV ∧ Mk h h' q (q + 3) ∧ Cs h' q c0_ Z_ 0 1) := by
  have h1 : h.2 q = some (cO 0 [vN, vN, vI 0, vI 0]) := h1
  refine k_enp 1 (Nat.le_of_ble_eq_true rfl) (p_go [] 40 ?_)
  simp only [st_0, st_1, st_2, st_3, st_4, st_5, st_6, st_7, st_8, st_9, st_10, st_11, st_12, st_13, st_14, st_15, st_16, st_17, st_18, st_19, st_20, st_21, st_22, st_23, st_24, st_25, st_26, st_27, st_28, st_29, st_30, st_31, st_32, st_33, st_34, st_34a, st_35, st_36, st_37, st_38, st_39, st_42, st_44, st_45, st_47, st_40, st_41, st_46, st_48, st_49, st_43, go_0, go_s, cut_0, cut_s, get_0, get_s, put_0, put_1, put_s, clr_0, clr_s, unl_i, unl_l, unl_r, unl_n, nth_0, nth_s, sf_0, sf_s, cnd_0, cnd_1, cnd_2, cnd_3, cnd_4, cnd_5, fit_0, fit_1, fit_2, en_0, en_i, en_l, en_r, kb_t, kb_f, kb_n, sw_0, sw_s, ↓reduceIte, Nat.reduceEqDiff, Nat.left_eq_add, Nat.add_eq_left, Nat.add_left_cancel_iff, Nat.reduceAdd, Int.reduceLT, Int.reduceLE, Int.reduceAdd, Int.reduceSub, Int.reduceNeg, Int.reduceMul, Int.reduceToNat, Int.reduceEq, reduceCtorEq, true_and, and_true, true_or, or_true, and_false, false_and, or_false, false_or, not_true_eq_false, not_false_eq_true, Nat.le_refl, and_self, Sum.inl.injEq, Sum.inr.injEq, Option.some.injEq, hS_2, k_isref, pd_0, pd_s, List.cons_append, List.nil_append, Option.toList_none, Option.toList_some, tX0_init, rX0_init, h1]
  refine ⟨⟨by omega, by decide⟩, ?_⟩
  refine p_nwa (q + 1) 289 0 hq (by omega) (by omega) (fun h2 a1 a2 a3 => p_go [] 40 ?_)
  have a4 := (a3 q (by omega)).trans h1
  simp only [st_0, st_1, st_2, st_3, st_4, st_5, st_6, st_7, st_8, st_9, st_10, st_11, st_12, st_13, st_14, st_15, st_16, st_17, st_18, st_19, st_20, st_21, st_22, st_23, st_24, st_25, st_26, st_27, st_28, st_29, st_30, st_31, st_32, st_33, st_34, st_34a, st_35, st_36, st_37, st_38, st_39, st_42, st_44, st_45, st_47, st_40, st_41, st_46, st_48, st_49, st_43, go_0, go_s, cut_0, cut_s, get_0, get_s, put_0, put_1, put_s, clr_0, clr_s, unl_i, unl_l, unl_r, unl_n, nth_0, nth_s, sf_0, sf_s, cnd_0, cnd_1, cnd_2, cnd_3, cnd_4, cnd_5, fit_0, fit_1, fit_2, en_0, en_i, en_l, en_r, kb_t, kb_f, kb_n, sw_0, sw_s, ↓reduceIte, Nat.reduceEqDiff, Nat.left_eq_add, Nat.add_eq_left, Nat.add_left_cancel_iff, Nat.reduceAdd, Int.reduceLT, Int.reduceLE, Int.reduceAdd, Int.reduceSub, Int.reduceNeg, Int.reduceMul, Int.reduceToNat, Int.reduceEq, reduceCtorEq, true_and, and_true, true_or, or_true, and_false, false_and, or_false, false_or, not_true_eq_false, not_false_eq_true, Nat.le_refl, and_self, Sum.inl.injEq, Sum.inr.injEq, Option.some.injEq, hS_2, k_isref, pd_0, pd_s, List.cons_append, List.nil_append, Option.toList_none, Option.toList_some, tX0_init, rX0_init, a4]
  refine p_nwa (q + 2) 289 0 a1 (by omega) (by omega) (fun h3 b1 b2 b3 => p_go [] 40 ?_)
  have b4 := (b3 q (by omega)).trans (hS_s h2 q _)
  have b5 : h3.2 (q + 1) = some (cI 289 Z_) := (b3 (q + 1) (by omega)).trans ((hS_n (by omega)).trans a2)
  have z5 : ∀ z, z < q → h3.2 z = h.2 z := fun z hz => (b3 z (by omega)).trans ((hS_n (by omega)).trans (a3 z (by omega)))
  simp only [st_0, st_1, st_2, st_3, st_4, st_5, st_6, st_7, st_8, st_9, st_10, st_11, st_12, st_13, st_14, st_15, st_16, st_17, st_18, st_19, st_20, st_21, st_22, st_23, st_24, st_25, st_26, st_27, st_28, st_29, st_30, st_31, st_32, st_33, st_34, st_34a, st_35, st_36, st_37, st_38, st_39, st_42, st_44, st_45, st_47, st_40, st_41, st_46, st_48, st_49, st_43, go_0, go_s, cut_0, cut_s, get_0, get_s, put_0, put_1, put_s, clr_0, clr_s, unl_i, unl_l, unl_r, unl_n, nth_0, nth_s, sf_0, sf_s, cnd_0, cnd_1, cnd_2, cnd_3, cnd_4, cnd_5, fit_0, fit_1, fit_2, en_0, en_i, en_l, en_r, kb_t, kb_f, kb_n, sw_0, sw_s, ↓reduceIte, Nat.reduceEqDiff, Nat.left_eq_add, Nat.add_eq_left, Nat.add_left_cancel_iff, Nat.reduceAdd, Int.reduceLT, Int.reduceLE, Int.reduceAdd, Int.reduceSub, Int.reduceNeg, Int.reduceMul, Int.reduceToNat, Int.reduceEq, reduceCtorEq, true_and, and_true, true_or, or_true, and_false, false_and, or_false, false_or, not_true_eq_false, not_false_eq_true, Nat.le_refl, and_self, Sum.inl.injEq, Sum.inr.injEq, Option.some.injEq, hS_2, k_isref, pd_0, pd_s, List.cons_append, List.nil_append, Option.toList_none, Option.toList_some, tX0_init, rX0_init, b4]
  have c1 : (hS h3 q (cO 0 [vR (q + 1), vR (q + 2), vI 0, vI 0])).2 (q + 1) = some (cI 289 Z_) := (hS_n (by omega)).trans b5
  have c2 : (hS h3 q (cO 0 [vR (q + 1), vR (q + 2), vI 0, vI 0])).2 q = some (cO 0 [vR (q + 1), vR (q + 2), vI 0, vI 0]) := hS_s _ _ _
  have c3 : (hS h3 q (cO 0 [vR (q + 1), vR (q + 2), vI 0, vI 0])).2 (q + 2) = some (cI 289 Z_) := (hS_n (by omega)).trans b2
  have c4 : ∀ z, z < q → (hS h3 q (cO 0 [vR (q + 1), vR (q + 2), vI 0, vI 0])).2 z = h.2 z := fun z hz => (hS_n (by omega)).trans (z5 z hz)
  have c5 : (hS h3 q (cO 0 [vR (q + 1), vR (q + 2), vI 0, vI 0])).1 = q + 3 := b1
  generalize hS h3 q (cO 0 [vR (q + 1), vR (q + 2), vI 0, vI 0]) = h4 at c1 c2 c3 c4 c5 ⊢
  refine cS (d' := 0) [vR (q + 1), vI 100] [] l_0_18 (e_fillA (by decide) c1) (by omega) (p_go [33] 40 ?_) (by decide) (by decide)
  simp only [st_0, st_1, st_2, st_3, st_4, st_5, st_6, st_7, st_8, st_9, st_10, st_11, st_12, st_13, st_14, st_15, st_16, st_17, st_18, st_19, st_20, st_21, st_22, st_23, st_24, st_25, st_26, st_27, st_28, st_29, st_30, st_31, st_32, st_33, st_34, st_34a, st_35, st_36, st_37, st_38, st_39, st_42, st_44, st_45, st_47, st_40, st_41, st_46, st_48, st_49, st_43, go_0, go_s, cut_0, cut_s, get_0, get_s, put_0, put_1, put_s, clr_0, clr_s, unl_i, unl_l, unl_r, unl_n, nth_0, nth_s, sf_0, sf_s, cnd_0, cnd_1, cnd_2, cnd_3, cnd_4, cnd_5, fit_0, fit_1, fit_2, en_0, en_i, en_l, en_r, kb_t, kb_f, kb_n, sw_0, sw_s, ↓reduceIte, Nat.reduceEqDiff, Nat.left_eq_add, Nat.add_eq_left, Nat.add_left_cancel_iff, Nat.reduceAdd, Int.reduceLT, Int.reduceLE, Int.reduceAdd, Int.reduceSub, Int.reduceNeg, Int.reduceMul, Int.reduceToNat, Int.reduceEq, reduceCtorEq, true_and, and_true, true_or, or_true, and_false, false_and, or_false, false_or, not_true_eq_false, not_false_eq_true, Nat.le_refl, and_self, Sum.inl.injEq, Sum.inr.injEq, Option.some.injEq, hS_2, k_isref, pd_0, pd_s, List.cons_append, List.nil_append, Option.toList_none, Option.toList_some, tX0_init, rX0_init]
  refine w_iCost (e := 0) (s := 0) c2 (by decide) (by decide) 17 0 _ (by omega) (fun a ha => ?_) ⟨rfl, ⟨c5, fun z hz => ?_⟩, hS_s _ _ _, ?_, ?_⟩
  · rw [flF_e, if_pos (by omega), if_neg (by omega)]
  · exact (hS_n (by omega)).trans ((hS_n (by omega)).trans (c4 z hz))
  · exact (hS_n (by omega)).trans (hS_s _ _ _)
  · exact (hS_n (by omega)).trans ((hS_n (by omega)).trans c3)
set_option maxRecDepth 100000 in
set_option maxHeartbeats 4000000 in
theorem e_iMeas (hq : h.1 = 6) (h1 : h.2 5 = some (cO 4 (k_df 4))) {C N : F_} {e s : Int} (hC : Cs h 2 C N e s) (hd : 2 ≤ d) : k_Ev true d 3 123 mX4_init [vR 5, vR 2] h (fun o h' => o = rV ∧ Mk h h' 5 9 ∧ MsZ h') := by
  have h1 : h.2 5 = some (cO 4 [vN, vN, vN, vN, vN, vI 0, vI 0, vI 0]) := h1
  refine k_enp 0 (Nat.le_of_ble_eq_true rfl) (p_go [] 40 ?_)
  simp only [st_0, st_1, st_2, st_3, st_4, st_5, st_6, st_7, st_8, st_9, st_10, st_11, st_12, st_13, st_14, st_15, st_16, st_17, st_18, st_19, st_20, st_21, st_22, st_23, st_24, st_25, st_26, st_27, st_28, st_29, st_30, st_31, st_32, st_33, st_34, st_34a, st_35, st_36, st_37, st_38, st_39, st_42, st_44, st_45, st_47, st_40, st_41, st_46, st_48, st_49, st_43, go_0, go_s, cut_0, cut_s, get_0, get_s, put_0, put_1, put_s, clr_0, clr_s, unl_i, unl_l, unl_r, unl_n, nth_0, nth_s, sf_0, sf_s, cnd_0, cnd_1, cnd_2, cnd_3, cnd_4, cnd_5, fit_0, fit_1, fit_2, en_0, en_i, en_l, en_r, kb_t, kb_f, kb_n, sw_0, sw_s, ↓reduceIte, Nat.reduceEqDiff, Nat.left_eq_add, Nat.add_eq_left, Nat.add_left_cancel_iff, Nat.reduceAdd, Int.reduceLT, Int.reduceLE, Int.reduceAdd, Int.reduceSub, Int.reduceNeg, Int.reduceMul, Int.reduceToNat, Int.reduceEq, reduceCtorEq, true_and, and_true, true_or, or_true, and_false, false_and, or_false, false_or, not_true_eq_false, not_false_eq_true, Nat.le_refl, and_self, Sum.inl.injEq, Sum.inr.injEq, Option.some.injEq, hS_2, k_isref, pd_0, pd_s, List.cons_append, List.nil_append, Option.toList_none, Option.toList_some, tX4_init, rX4_init, h1]
  refine ⟨⟨by omega, by decide⟩, ?_⟩
  refine p_nwa 6 41 0 hq (by omega) (by omega) (fun h2 a1 a2 a3 => p_go [] 40 ?_)
  have a4 := (a3 5 (by omega)).trans h1
  simp only [st_0, st_1, st_2, st_3, st_4, st_5, st_6, st_7, st_8, st_9, st_10, st_11, st_12, st_13, st_14, st_15, st_16, st_17, st_18, st_19, st_20, st_21, st_22, st_23, st_24, st_25, st_26, st_27, st_28, st_29, st_30, st_31, st_32, st_33, st_34, st_34a, st_35, st_36, st_37, st_38, st_39, st_42, st_44, st_45, st_47, st_40, st_41, st_46, st_48, st_49, st_43, go_0, go_s, cut_0, cut_s, get_0, get_s, put_0, put_1, put_s, clr_0, clr_s, unl_i, unl_l, unl_r, unl_n, nth_0, nth_s, sf_0, sf_s, cnd_0, cnd_1, cnd_2, cnd_3, cnd_4, cnd_5, fit_0, fit_1, fit_2, en_0, en_i, en_l, en_r, kb_t, kb_f, kb_n, sw_0, sw_s, ↓reduceIte, Nat.reduceEqDiff, Nat.left_eq_add, Nat.add_eq_left, Nat.add_left_cancel_iff, Nat.reduceAdd, Int.reduceLT, Int.reduceLE, Int.reduceAdd, Int.reduceSub, Int.reduceNeg, Int.reduceMul, Int.reduceToNat, Int.reduceEq, reduceCtorEq, true_and, and_true, true_or, or_true, and_false, false_and, or_false, false_or, not_true_eq_false, not_false_eq_true, Nat.le_refl, and_self, Sum.inl.injEq, Sum.inr.injEq, Option.some.injEq, hS_2, k_isref, pd_0, pd_s, List.cons_append, List.nil_append, Option.toList_none, Option.toList_some, tX4_init, rX4_init, a4]
  refine p_nwa 7 41 0 a1 (by omega) (by omega) (fun h3 b1 b2 b3 => p_go [] 40 ?_)
  have b4 := (b3 5 (by omega)).trans (hS_s h2 5 _)
  have b6 := (b3 6 (by omega)).trans ((hS_n (by omega)).trans a2)
  simp only [st_0, st_1, st_2, st_3, st_4, st_5, st_6, st_7, st_8, st_9, st_10, st_11, st_12, st_13, st_14, st_15, st_16, st_17, st_18, st_19, st_20, st_21, st_22, st_23, st_24, st_25, st_26, st_27, st_28, st_29, st_30, st_31, st_32, st_33, st_34, st_34a, st_35, st_36, st_37, st_38, st_39, st_42, st_44, st_45, st_47, st_40, st_41, st_46, st_48, st_49, st_43, go_0, go_s, cut_0, cut_s, get_0, get_s, put_0, put_1, put_s, clr_0, clr_s, unl_i, unl_l, unl_r, unl_n, nth_0, nth_s, sf_0, sf_s, cnd_0, cnd_1, cnd_2, cnd_3, cnd_4, cnd_5, fit_0, fit_1, fit_2, en_0, en_i, en_l, en_r, kb_t, kb_f, kb_n, sw_0, sw_s, ↓reduceIte, Nat.reduceEqDiff, Nat.left_eq_add, Nat.add_eq_left, Nat.add_left_cancel_iff, Nat.reduceAdd, Int.reduceLT, Int.reduceLE, Int.reduceAdd, Int.reduceSub, Int.reduceNeg, Int.reduceMul, Int.reduceToNat, Int.reduceEq, reduceCtorEq, true_and, and_true, true_or, or_true, and_false, false_and, or_false, false_or, not_true_eq_false, not_false_eq_true, Nat.le_refl, and_self, Sum.inl.injEq, Sum.inr.injEq, Option.some.injEq, hS_2, k_isref, pd_0, pd_s, List.cons_append, List.nil_append, Option.toList_none, Option.toList_some, tX4_init, rX4_init, b4]
  refine p_nwa 8 41 0 b1 (by omega) (by omega) (fun h4 c1 c2 c3 => p_go [] 40 ?_)
  have c4 := (c3 5 (by omega)).trans (hS_s h3 5 _)
  have c6 := (c3 6 (by omega)).trans ((hS_n (by omega)).trans b6)
  have c7 := (c3 7 (by omega)).trans ((hS_n (by omega)).trans b2)
  have z5 : ∀ z, z < 5 → h4.2 z = h.2 z := fun z hz => (c3 z (by omega)).trans ((hS_n (by omega)).trans ((b3 z (by omega)).trans ((hS_n (by omega)).trans (a3 z (by omega)))))
  have hC4 : Cs h4 2 C N e s := ⟨(z5 2 (by omega)).trans hC.1, (z5 3 (by omega)).trans hC.2.1, (z5 4 (by omega)).trans hC.2.2⟩
  simp only [st_0, st_1, st_2, st_3, st_4, st_5, st_6, st_7, st_8, st_9, st_10, st_11, st_12, st_13, st_14, st_15, st_16, st_17, st_18, st_19, st_20, st_21, st_22, st_23, st_24, st_25, st_26, st_27, st_28, st_29, st_30, st_31, st_32, st_33, st_34, st_34a, st_35, st_36, st_37, st_38, st_39, st_42, st_44, st_45, st_47, st_40, st_41, st_46, st_48, st_49, st_43, go_0, go_s, cut_0, cut_s, get_0, get_s, put_0, put_1, put_s, clr_0, clr_s, unl_i, unl_l, unl_r, unl_n, nth_0, nth_s, sf_0, sf_s, cnd_0, cnd_1, cnd_2, cnd_3, cnd_4, cnd_5, fit_0, fit_1, fit_2, en_0, en_i, en_l, en_r, kb_t, kb_f, kb_n, sw_0, sw_s, ↓reduceIte, Nat.reduceEqDiff, Nat.left_eq_add, Nat.add_eq_left, Nat.add_left_cancel_iff, Nat.reduceAdd, Int.reduceLT, Int.reduceLE, Int.reduceAdd, Int.reduceSub, Int.reduceNeg, Int.reduceMul, Int.reduceToNat, Int.reduceEq, reduceCtorEq, true_and, and_true, true_or, or_true, and_false, false_and, or_false, false_or, not_true_eq_false, not_false_eq_true, Nat.le_refl, and_self, Sum.inl.injEq, Sum.inr.injEq, Option.some.injEq, hS_2, k_isref, pd_0, pd_s, List.cons_append, List.nil_append, Option.toList_none, Option.toList_some, tX4_init, rX4_init, c4, hS_hS]
  have d5 := hS_s h4 5 (cO 4 [vR 6, vR 7, vR 8, vR 2, vN, vI 0, vI 0, vI 0])
  have dC : Cs (hS h4 5 (cO 4 [vR 6, vR 7, vR 8, vR 2, vN, vI 0, vI 0, vI 0])) 2 C N e s := ⟨(hS_n (by omega)).trans hC4.1, (hS_n (by omega)).trans hC4.2.1, (hS_n (by omega)).trans hC4.2.2⟩
  refine cV (d' := 0) [] [vR 5] l_4_25 dC.1 (e_table dC) (by omega) (p_go [] 40 ?_) (by decide) (by decide)
  simp only [st_0, st_1, st_2, st_3, st_4, st_5, st_6, st_7, st_8, st_9, st_10, st_11, st_12, st_13, st_14, st_15, st_16, st_17, st_18, st_19, st_20, st_21, st_22, st_23, st_24, st_25, st_26, st_27, st_28, st_29, st_30, st_31, st_32, st_33, st_34, st_34a, st_35, st_36, st_37, st_38, st_39, st_42, st_44, st_45, st_47, st_40, st_41, st_46, st_48, st_49, st_43, go_0, go_s, cut_0, cut_s, get_0, get_s, put_0, put_1, put_s, clr_0, clr_s, unl_i, unl_l, unl_r, unl_n, nth_0, nth_s, sf_0, sf_s, cnd_0, cnd_1, cnd_2, cnd_3, cnd_4, cnd_5, fit_0, fit_1, fit_2, en_0, en_i, en_l, en_r, kb_t, kb_f, kb_n, sw_0, sw_s, ↓reduceIte, Nat.reduceEqDiff, Nat.left_eq_add, Nat.add_eq_left, Nat.add_left_cancel_iff, Nat.reduceAdd, Int.reduceLT, Int.reduceLE, Int.reduceAdd, Int.reduceSub, Int.reduceNeg, Int.reduceMul, Int.reduceToNat, Int.reduceEq, reduceCtorEq, true_and, and_true, true_or, or_true, and_false, false_and, or_false, false_or, not_true_eq_false, not_false_eq_true, Nat.le_refl, and_self, Sum.inl.injEq, Sum.inr.injEq, Option.some.injEq, hS_2, k_isref, pd_0, pd_s, List.cons_append, List.nil_append, Option.toList_none, Option.toList_some, tX4_init, rX4_init, hS_hS]
  refine ⟨⟨c1, fun z hz => (hS_n (by omega)).trans (z5 z hz)⟩, 0, 0, 0, Z_, Z_, Z_, hS_s _ _ _, (hS_n (by omega)).trans c6, (hS_n (by omega)).trans c7, (hS_n (by omega)).trans c2, rfl, rfl⟩
end Init56
