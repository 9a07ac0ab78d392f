/-! the reference: book -/
section Mbook65
variable {x : Bool} {d : Nat} {h : PH} {s : F_} {P : PO → PH → Prop} {g : F_}
set_option maxRecDepth 100000 in
set_option maxHeartbeats 4000000 in
theorem w_bookL {L : F_} {z many : Int} {k n : Nat} (h1 : h.2 57 = some (mO s)) (h2 : h.2 62 = some (.inl (1, 400, g))) (hs : s 9 = n) (hn : n ≤ 10) (hk : k < 40)
    (kk : k_Wp x d 0 0 mX12_book P 0 0 146 [some (vR 57), some (vI z), some (vI many), some (vI k), none] [] (hS h 67 (cI 400 (va_cpy g L 0 (10 * k) n)))) : ∀ (j i : Nat), i + j = n →
    k_Wp x d 0 0 mX12_book P 0 0 112 [some (vR 57), some (vI z), some (vI many), some (vI k), some (vI i)] [] (hS h 67 (cI 400 (va_cpy g L 0 (10 * k) i))) := by
  intro j
  induction j with
  | zero =>
    intro i hi
    have e1 : s 9 ≤ (i : Int) := by omega
    rw [show i = n by omega] at *
    refine p_go [146] 40 ?_
    simp only [st_0, st_1, st_2, st_3, st_4, st_5, st_6, st_7, st_8, st_9, st_10, st_11, st_12, st_13, st_14, st_15, st_16, st_17, st_18, st_19, st_20, st_21, st_22, st_23, st_24, st_25, st_26, st_27, st_28, st_29, st_30, st_31, st_32, st_33, st_34, st_34a, st_35, st_36, st_37, st_38, st_39, st_42, st_44, st_45, st_47, st_40, st_41, st_46, st_48, st_49, st_43, go_0, go_s, cut_0, cut_s, get_0, get_s, put_0, put_1, put_s, clr_0, clr_s, unl_i, unl_l, unl_r, unl_n, nth_0, nth_s, sf_0, sf_s, cnd_0, cnd_1, cnd_2, cnd_3, cnd_4, cnd_5, fit_0, fit_1, fit_2, en_0, en_i, en_l, en_r, kb_t, kb_f, kb_n, sw_0, sw_s, ↓reduceIte, Nat.reduceEqDiff, Nat.left_eq_add, Nat.add_eq_left, Nat.add_left_cancel_iff, Nat.reduceAdd, Int.reduceLT, Int.reduceLE, Int.reduceAdd, Int.reduceSub, Int.reduceNeg, Int.reduceMul, Int.reduceToNat, Int.reduceEq, reduceCtorEq, true_and, and_true, true_or, or_true, and_false, false_and, or_false, false_or, not_true_eq_false, not_false_eq_true, Nat.le_refl, and_self, Sum.inl.injEq, Sum.inr.injEq, Option.some.injEq, hS_2, k_isref, pd_0, pd_s, List.cons_append, List.nil_append, Option.toList_none, Option.toList_some, tX12_book, rX12_book, h1, e1]
    exact p_sub (by (repeat (first | exact le_nil | refine le_s ?_ | refine le_n ?_))) kk
  | succ j ih =>
    intro i hi
    have e1 : ¬ s 9 ≤ (i : Int) := by omega
    have e2 : ((10 : Int) * k + i).toNat = 10 * k + i := by omega
    have hih := ih (i + 1) (by omega)
    rw [← cpy_s, Nat.zero_add] at hih
    refine p_go [112] 40 ?_
    simp only [st_0, st_1, st_2, st_3, st_4, st_5, st_6, st_7, st_8, st_9, st_10, st_11, st_12, st_13, st_14, st_15, st_16, st_17, st_18, st_19, st_20, st_21, st_22, st_23, st_24, st_25, st_26, st_27, st_28, st_29, st_30, st_31, st_32, st_33, st_34, st_34a, st_35, st_36, st_37, st_38, st_39, st_42, st_44, st_45, st_47, st_40, st_41, st_46, st_48, st_49, st_43, go_0, go_s, cut_0, cut_s, get_0, get_s, put_0, put_1, put_s, clr_0, clr_s, unl_i, unl_l, unl_r, unl_n, nth_0, nth_s, sf_0, sf_s, cnd_0, cnd_1, cnd_2, cnd_3, cnd_4, cnd_5, fit_0, fit_1, fit_2, en_0, en_i, en_l, en_r, kb_t, kb_f, kb_n, sw_0, sw_s, ↓reduceIte, Nat.reduceEqDiff, Nat.left_eq_add, Nat.add_eq_left, Nat.add_left_cancel_iff, Nat.reduceAdd, Int.reduceLT, Int.reduceLE, Int.reduceAdd, Int.reduceSub, Int.reduceNeg, Int.reduceMul, Int.reduceToNat, Int.reduceEq, reduceCtorEq, true_and, and_true, true_or, or_true, and_false, false_and, or_false, false_or, not_true_eq_false, not_false_eq_true, Nat.le_refl, and_self, Sum.inl.injEq, Sum.inr.injEq, Option.some.injEq, hS_2, k_isref, pd_0, pd_s, List.cons_append, List.nil_append, Option.toList_none, Option.toList_some, tX12_book, rX12_book, h1, h2, e1, e2, nat1, hS_hS, Int.toNat_natCast]
    (repeat (first | exact hih | refine ⟨⟨by omega, by omega⟩, ?_⟩ | refine And.intro (by omega) ?_))
set_option maxRecDepth 100000 in
set_option maxHeartbeats 4000000 in
theorem w_bookS {S hf : F_} {z : Int} {k many : Nat} (h1 : h.2 57 = some (mO s)) (h2 : h.2 61 = some (cI 40 hf)) (hn : many ≤ 20) (hk : k < 40)
    (kk : k_Wp x d 0 0 mX12_book P 0 0 190 [some (vR 57), some (vI z), some (vI many), some (vI k), none] [] (hS h 69 (cI 800 (va_cpy hf S 0 (20 * k) many)))) : ∀ (j i : Nat), i + j = many →
    k_Wp x d 0 0 mX12_book P 0 0 159 [some (vR 57), some (vI z), some (vI many), some (vI k), some (vI i)] [] (hS h 69 (cI 800 (va_cpy hf S 0 (20 * k) i))) := by
  intro j
  induction j with
  | zero =>
    intro i hi
    have e1 : (many : Int) ≤ (i : Int) := by omega
    rw [show i = many by omega] at *
    refine p_go [190] 40 ?_
    simp only [st_0, st_1, st_2, st_3, st_4, st_5, st_6, st_7, st_8, st_9, st_10, st_11, st_12, st_13, st_14, st_15, st_16, st_17, st_18, st_19, st_20, st_21, st_22, st_23, st_24, st_25, st_26, st_27, st_28, st_29, st_30, st_31, st_32, st_33, st_34, st_34a, st_35, st_36, st_37, st_38, st_39, st_42, st_44, st_45, st_47, st_40, st_41, st_46, st_48, st_49, st_43, go_0, go_s, cut_0, cut_s, get_0, get_s, put_0, put_1, put_s, clr_0, clr_s, unl_i, unl_l, unl_r, unl_n, nth_0, nth_s, sf_0, sf_s, cnd_0, cnd_1, cnd_2, cnd_3, cnd_4, cnd_5, fit_0, fit_1, fit_2, en_0, en_i, en_l, en_r, kb_t, kb_f, kb_n, sw_0, sw_s, ↓reduceIte, Nat.reduceEqDiff, Nat.left_eq_add, Nat.add_eq_left, Nat.add_left_cancel_iff, Nat.reduceAdd, Int.reduceLT, Int.reduceLE, Int.reduceAdd, Int.reduceSub, Int.reduceNeg, Int.reduceMul, Int.reduceToNat, Int.reduceEq, reduceCtorEq, true_and, and_true, true_or, or_true, and_false, false_and, or_false, false_or, not_true_eq_false, not_false_eq_true, Nat.le_refl, and_self, Sum.inl.injEq, Sum.inr.injEq, Option.some.injEq, hS_2, k_isref, pd_0, pd_s, List.cons_append, List.nil_append, Option.toList_none, Option.toList_some, tX12_book, rX12_book, e1]
    exact p_sub (by (repeat (first | exact le_nil | refine le_s ?_ | refine le_n ?_))) kk
  | succ j ih =>
    intro i hi
    have e1 : ¬ (many : Int) ≤ (i : Int) := by omega
    have e2 : ((20 : Int) * k + i).toNat = 20 * k + i := by omega
    have hih := ih (i + 1) (by omega)
    rw [← cpy_s, Nat.zero_add] at hih
    refine p_go [159] 40 ?_
    simp only [st_0, st_1, st_2, st_3, st_4, st_5, st_6, st_7, st_8, st_9, st_10, st_11, st_12, st_13, st_14, st_15, st_16, st_17, st_18, st_19, st_20, st_21, st_22, st_23, st_24, st_25, st_26, st_27, st_28, st_29, st_30, st_31, st_32, st_33, st_34, st_34a, st_35, st_36, st_37, st_38, st_39, st_42, st_44, st_45, st_47, st_40, st_41, st_46, st_48, st_49, st_43, go_0, go_s, cut_0, cut_s, get_0, get_s, put_0, put_1, put_s, clr_0, clr_s, unl_i, unl_l, unl_r, unl_n, nth_0, nth_s, sf_0, sf_s, cnd_0, cnd_1, cnd_2, cnd_3, cnd_4, cnd_5, fit_0, fit_1, fit_2, en_0, en_i, en_l, en_r, kb_t, kb_f, kb_n, sw_0, sw_s, ↓reduceIte, Nat.reduceEqDiff, Nat.left_eq_add, Nat.add_eq_left, Nat.add_left_cancel_iff, Nat.reduceAdd, Int.reduceLT, Int.reduceLE, Int.reduceAdd, Int.reduceSub, Int.reduceNeg, Int.reduceMul, Int.reduceToNat, Int.reduceEq, reduceCtorEq, true_and, and_true, true_or, or_true, and_false, false_and, or_false, false_or, not_true_eq_false, not_false_eq_true, Nat.le_refl, and_self, Sum.inl.injEq, Sum.inr.injEq, Option.some.injEq, hS_2, k_isref, pd_0, pd_s, List.cons_append, List.nil_append, Option.toList_none, Option.toList_some, tX12_book, rX12_book, h1, h2, e1, e2, nat1, hS_hS, Int.toNat_natCast]
    (repeat (first | exact hih | refine ⟨⟨by omega, by omega⟩, ?_⟩ | refine And.intro (by omega) ?_))
set_option maxRecDepth 100000 in
set_option maxHeartbeats 4000000 in
theorem w_bookT {L ln S mn hf : F_} {z : Int} {k n many : Nat} (h1 : h.2 57 = some (mO s)) (h2 : h.2 62 = some (.inl (1, 400, g))) (h3 : h.2 61 = some (cI 40 hf)) (hL : h.2 67 = some (cI 400 L)) (hl : h.2 (67 + 1) = some (cI 40 ln)) (hS1 : h.2 (67 + 2) = some (cI 800 S)) (hm : h.2 (67 + 3) = some (cI 40 mn)) (hs : s 9 = n) (hn : n ≤ 10) (hmy : many ≤ 20) (hk : k < 40)
    (kk : P (rI (s 19)) (tmH h 67 400 40 800 L ln S mn g hf 10 20 k n many)) :
    k_Wp x d 0 0 mX12_book P 0 0 109 [some (vR 57), some (vI z), some (vI many), some (vI k), none] [] h := by
  refine p_go [112] 40 ?_
  simp only [st_0, st_1, st_2, st_3, st_4, st_5, st_6, st_7, st_8, st_9, st_10, st_11, st_12, st_13, st_14, st_15, st_16, st_17, st_18, st_19, st_20, st_21, st_22, st_23, st_24, st_25, st_26, st_27, st_28, st_29, st_30, st_31, st_32, st_33, st_34, st_34a, st_35, st_36, st_37, st_38, st_39, st_42, st_44, st_45, st_47, st_40, st_41, st_46, st_48, st_49, st_43, go_0, go_s, cut_0, cut_s, get_0, get_s, put_0, put_1, put_s, clr_0, clr_s, unl_i, unl_l, unl_r, unl_n, nth_0, nth_s, sf_0, sf_s, cnd_0, cnd_1, cnd_2, cnd_3, cnd_4, cnd_5, fit_0, fit_1, fit_2, en_0, en_i, en_l, en_r, kb_t, kb_f, kb_n, sw_0, sw_s, ↓reduceIte, Nat.reduceEqDiff, Nat.left_eq_add, Nat.add_eq_left, Nat.add_left_cancel_iff, Nat.reduceAdd, Int.reduceLT, Int.reduceLE, Int.reduceAdd, Int.reduceSub, Int.reduceNeg, Int.reduceMul, Int.reduceToNat, Int.reduceEq, reduceCtorEq, true_and, and_true, true_or, or_true, and_false, false_and, or_false, false_or, not_true_eq_false, not_false_eq_true, Nat.le_refl, and_self, Sum.inl.injEq, Sum.inr.injEq, Option.some.injEq, hS_2, k_isref, pd_0, pd_s, List.cons_append, List.nil_append, Option.toList_none, Option.toList_some, tX12_book, rX12_book]
  unfold tmH at kk
  rw [Int.toNat_natCast] at kk
  have hgo : k_Wp x d 0 0 mX12_book P 0 0 112 [some (vR 57), some (vI z), some (vI many), some (vI k), some (vI ((0 : Nat) : Int))] [] (hS h 67 (cI 400 (va_cpy g L 0 (10 * k) 0))) := by
    refine w_bookL h1 h2 hs hn hk ?_ n 0 (by omega)
    have k1 : (hS h 67 (cI 400 (va_cpy g L 0 (10 * k) n))).2 57 = some (mO s) := (hS_n (by decide)).trans h1
    have k3 : (hS h 67 (cI 400 (va_cpy g L 0 (10 * k) n))).2 61 = some (cI 40 hf) := (hS_n (by decide)).trans h3
    have kl : (hS h 67 (cI 400 (va_cpy g L 0 (10 * k) n))).2 (67 + 1) = some (cI 40 ln) := (hS_n (by decide)).trans hl
    have kS : (hS h 67 (cI 400 (va_cpy g L 0 (10 * k) n))).2 (67 + 2) = some (cI 800 S) := (hS_n (by decide)).trans hS1
    have km : (hS h 67 (cI 400 (va_cpy g L 0 (10 * k) n))).2 (67 + 3) = some (cI 40 mn) := (hS_n (by decide)).trans hm
    generalize hS h 67 (cI 400 (va_cpy g L 0 (10 * k) n)) = h4 at k1 k3 kl kS km kk ⊢
    refine p_go [159] 40 ?_
    simp only [st_0, st_1, st_2, st_3, st_4, st_5, st_6, st_7, st_8, st_9, st_10, st_11, st_12, st_13, st_14, st_15, st_16, st_17, st_18, st_19, st_20, st_21, st_22, st_23, st_24, st_25, st_26, st_27, st_28, st_29, st_30, st_31, st_32, st_33, st_34, st_34a, st_35, st_36, st_37, st_38, st_39, st_42, st_44, st_45, st_47, st_40, st_41, st_46, st_48, st_49, st_43, go_0, go_s, cut_0, cut_s, get_0, get_s, put_0, put_1, put_s, clr_0, clr_s, unl_i, unl_l, unl_r, unl_n, nth_0, nth_s, sf_0, sf_s, cnd_0, cnd_1, cnd_2, cnd_3, cnd_4, cnd_5, fit_0, fit_1, fit_2, en_0, en_i, en_l, en_r, kb_t, kb_f, kb_n, sw_0, sw_s, ↓reduceIte, Nat.reduceEqDiff, Nat.left_eq_add, Nat.add_eq_left, Nat.add_left_cancel_iff, Nat.reduceAdd, Int.reduceLT, Int.reduceLE, Int.reduceAdd, Int.reduceSub, Int.reduceNeg, Int.reduceMul, Int.reduceToNat, Int.reduceEq, reduceCtorEq, true_and, and_true, true_or, or_true, and_false, false_and, or_false, false_or, not_true_eq_false, not_false_eq_true, Nat.le_refl, and_self, Sum.inl.injEq, Sum.inr.injEq, Option.some.injEq, hS_2, k_isref, pd_0, pd_s, List.cons_append, List.nil_append, Option.toList_none, Option.toList_some, tX12_book, rX12_book, k1, kl, hs, Int.toNat_natCast]
    refine ⟨⟨by omega, by omega⟩, ?_⟩
    have j1 : (hS h4 (67 + 1) (cI 40 (fS ln k n))).2 57 = some (mO s) := (hS_n (by decide)).trans k1
    have j3 : (hS h4 (67 + 1) (cI 40 (fS ln k n))).2 61 = some (cI 40 hf) := (hS_n (by decide)).trans k3
    have jS : (hS h4 (67 + 1) (cI 40 (fS ln k n))).2 (67 + 2) = some (cI 800 S) := (hS_n (by decide)).trans kS
    have jm : (hS h4 (67 + 1) (cI 40 (fS ln k n))).2 (67 + 3) = some (cI 40 mn) := (hS_n (by decide)).trans km
    change k_Wp x d 0 0 mX12_book P 0 0 159 [some (vR 57), some (vI z), some (vI many), some (vI k), some (vI ((0 : Nat) : Int))] [] (hS h4 (67 + 1) (cI 40 (fS ln k n)))
    generalize hS h4 (67 + 1) (cI 40 (fS ln k n)) = h5 at j1 j3 jS jm kk ⊢
    have hgo2 : k_Wp x d 0 0 mX12_book P 0 0 159 [some (vR 57), some (vI z), some (vI many), some (vI k), some (vI ((0 : Nat) : Int))] [] (hS h5 69 (cI 800 (va_cpy hf S 0 (20 * k) 0))) := by
      refine w_bookS j1 j3 hmy hk ?_ many 0 (by omega)
      have i1 : (hS h5 69 (cI 800 (va_cpy hf S 0 (20 * k) many))).2 57 = some (mO s) := (hS_n (by decide)).trans j1
      have im : (hS h5 69 (cI 800 (va_cpy hf S 0 (20 * k) many))).2 (67 + 3) = some (cI 40 mn) := (hS_n (by decide)).trans jm
      change P (rI (s 19)) (hS (hS h5 69 (cI 800 (va_cpy hf S 0 (20 * k) many))) (67 + 3) (cI 40 (fS mn k many))) at kk
      generalize hS h5 69 (cI 800 (va_cpy hf S 0 (20 * k) many)) = h6 at i1 im kk ⊢
      refine p_go [] 40 ?_
      simp only [st_0, st_1, st_2, st_3, st_4, st_5, st_6, st_7, st_8, st_9, st_10, st_11, st_12, st_13, st_14, st_15, st_16, st_17, st_18, st_19, st_20, st_21, st_22, st_23, st_24, st_25, st_26, st_27, st_28, st_29, st_30, st_31, st_32, st_33, st_34, st_34a, st_35, st_36, st_37, st_38, st_39, st_42, st_44, st_45, st_47, st_40, st_41, st_46, st_48, st_49, st_43, go_0, go_s, cut_0, cut_s, get_0, get_s, put_0, put_1, put_s, clr_0, clr_s, unl_i, unl_l, unl_r, unl_n, nth_0, nth_s, sf_0, sf_s, cnd_0, cnd_1, cnd_2, cnd_3, cnd_4, cnd_5, fit_0, fit_1, fit_2, en_0, en_i, en_l, en_r, kb_t, kb_f, kb_n, sw_0, sw_s, ↓reduceIte, Nat.reduceEqDiff, Nat.left_eq_add, Nat.add_eq_left, Nat.add_left_cancel_iff, Nat.reduceAdd, Int.reduceLT, Int.reduceLE, Int.reduceAdd, Int.reduceSub, Int.reduceNeg, Int.reduceMul, Int.reduceToNat, Int.reduceEq, reduceCtorEq, true_and, and_true, true_or, or_true, and_false, false_and, or_false, false_or, not_true_eq_false, not_false_eq_true, Nat.le_refl, and_self, Sum.inl.injEq, Sum.inr.injEq, Option.some.injEq, hS_2, k_isref, pd_0, pd_s, List.cons_append, List.nil_append, Option.toList_none, Option.toList_some, tX12_book, rX12_book, i1, im, Int.toNat_natCast]
      (repeat (first | exact kk | refine ⟨⟨by omega, by omega⟩, ?_⟩ | refine And.intro (by omega) ?_))
    rw [cpy_0, hS_id jS] at hgo2
    exact hgo2
  rw [cpy_0, hS_id hL] at hgo
  exact hgo
set_option maxRecDepth 100000 in
set_option maxHeartbeats 4000000 in
theorem e_mbook {cs ls L ln S mn hf : F_} {sz : Nat} {z : Int} (h1 : h.2 57 = some (mO s)) (h2 : h.2 62 = some (.inl (1, 400, g))) (h3 : h.2 61 = some (cI 40 hf)) (hL : h.2 67 = some (cI 400 L)) (hl : h.2 (67 + 1) = some (cI 40 ln)) (hS1 : h.2 (67 + 2) = some (cI 800 S)) (hm : h.2 (67 + 3) = some (cI 40 mn)) (hg : ∀ k, k < 400 → -128 ≤ g k ∧ g k ≤ 127) (hsz : sz ≤ 40) (hss : s 19 = sz) (hR : lxR cs ls sz L ln 10) (h6 : 0 ≤ s 6 ∧ s 6 ≤ 40) (h8 : s 8 ≤ 400) (hd : 2 ≤ d)
    (c0 : ¬ (0 ≤ z ∧ z ≤ s 8) → P (rI 0) (hS h 57 (mO (mS s 0 1))))
    (c1 : 0 ≤ z ∧ z ≤ s 8 → ¬ (mSp g z 10 ∧ 1 ≤ s 6 ∧ s 6 ≤ 20) → P (rI (-1)) (hS h 57 (mO (mS (mS (mS (mS s 0 0) 9 z) 8 0) 6 0))))
    (c2 : 0 ≤ z ∧ z ≤ s 8 → mSp g z 10 ∧ 1 ≤ s 6 ∧ s 6 ≤ 20 → fnd cs (cd_ g 0 z.toNat) 0 sz = -1 → sz = 40 → P (rI (-2)) (hS h 57 (mO (mS (mS (mS (mS s 0 0) 9 z) 8 0) 6 0))))
    (c3 : 0 ≤ z ∧ z ≤ s 8 → mSp g z 10 ∧ 1 ≤ s 6 ∧ s 6 ≤ 20 → fnd cs (cd_ g 0 z.toNat) 0 sz = -1 → sz < 40 → P (rI (sz + 1 : Nat)) (tmH (hS h 57 (mO (mS (mS (mS (mS (mS s 0 0) 9 z) 8 0) 6 0) 19 (sz + 1 : Nat)))) 67 400 40 800 L ln S mn g hf 10 20 sz z.toNat (s 6)))
    (c4 : 0 ≤ z ∧ z ≤ s 8 → mSp g z 10 ∧ 1 ≤ s 6 ∧ s 6 ≤ 20 → ∀ k : Nat, fnd cs (cd_ g 0 z.toNat) 0 sz = k → k < sz → P (rI sz) (tmH (hS h 57 (mO (mS (mS (mS (mS s 0 0) 9 z) 8 0) 6 0))) 67 400 40 800 L ln S mn g hf 10 20 k z.toNat (s 6))) :
    k_Ev x d 0 0 mX12_book [vR 57, vI z] h P := by
  refine k_enp 3 (Nat.le_of_ble_eq_true rfl) (p_go [] 40 ?_)
  simp only [st_0, st_1, st_2, st_3, st_4, st_5, st_6, st_7, st_8, st_9, st_10, st_11, st_12, st_13, st_14, st_15, st_16, st_17, st_18, st_19, st_20, st_21, st_22, st_23, st_24, st_25, st_26, st_27, st_28, st_29, st_30, st_31, st_32, st_33, st_34, st_34a, st_35, st_36, st_37, st_38, st_39, st_42, st_44, st_45, st_47, st_40, st_41, st_46, st_48, st_49, st_43, go_0, go_s, cut_0, cut_s, get_0, get_s, put_0, put_1, put_s, clr_0, clr_s, unl_i, unl_l, unl_r, unl_n, nth_0, nth_s, sf_0, sf_s, cnd_0, cnd_1, cnd_2, cnd_3, cnd_4, cnd_5, fit_0, fit_1, fit_2, en_0, en_i, en_l, en_r, kb_t, kb_f, kb_n, sw_0, sw_s, ↓reduceIte, Nat.reduceEqDiff, Nat.left_eq_add, Nat.add_eq_left, Nat.add_left_cancel_iff, Nat.reduceAdd, Int.reduceLT, Int.reduceLE, Int.reduceAdd, Int.reduceSub, Int.reduceNeg, Int.reduceMul, Int.reduceToNat, Int.reduceEq, reduceCtorEq, true_and, and_true, true_or, or_true, and_false, false_and, or_false, false_or, not_true_eq_false, not_false_eq_true, Nat.le_refl, and_self, Sum.inl.injEq, Sum.inr.injEq, Option.some.injEq, hS_2, k_isref, pd_0, pd_s, List.cons_append, List.nil_append, Option.toList_none, Option.toList_some, tX12_book, rX12_book, h1]
  have k1 : (hS h 57 (mO (mS s 0 0))).2 57 = some (mO (mS s 0 0)) := hS_s _ _ _
  refine cVQ (d' := 1) (P' := fun o h' => (¬ (0 ≤ z ∧ z ≤ s 8) ∧ o = rI 0 ∧ h' = hS h 57 (mO (mS s 0 1))) ∨ ((0 ≤ z ∧ z ≤ s 8) ∧ o = rI 1 ∧ h' = hS h 57 (mO (mS (mS (mS s 0 0) 9 z) 8 0)))) [vI z] [] l_12_153 k1 (e_takes k1 (Nat.le_refl 1) (fun c => Or.inl ⟨c, rfl, by rw [hS_hS, if_pos mS_s, mS_mS]⟩) (fun c => Or.inr ⟨c, rfl, by rw [hS_hS]⟩)) (by omega) ?_ (fun E h' q => by rcases q with ⟨_, q, _⟩ | ⟨_, q, _⟩ <;> cases q)
  intro r1 h4 q
  rcases q with ⟨q1, q2, q3⟩ | ⟨q1, q2, q3⟩
  · cases q2
    subst q3
    refine p_go [] 40 ?_
    simp only [st_0, st_1, st_2, st_3, st_4, st_5, st_6, st_7, st_8, st_9, st_10, st_11, st_12, st_13, st_14, st_15, st_16, st_17, st_18, st_19, st_20, st_21, st_22, st_23, st_24, st_25, st_26, st_27, st_28, st_29, st_30, st_31, st_32, st_33, st_34, st_34a, st_35, st_36, st_37, st_38, st_39, st_42, st_44, st_45, st_47, st_40, st_41, st_46, st_48, st_49, st_43, go_0, go_s, cut_0, cut_s, get_0, get_s, put_0, put_1, put_s, clr_0, clr_s, unl_i, unl_l, unl_r, unl_n, nth_0, nth_s, sf_0, sf_s, cnd_0, cnd_1, cnd_2, cnd_3, cnd_4, cnd_5, fit_0, fit_1, fit_2, en_0, en_i, en_l, en_r, kb_t, kb_f, kb_n, sw_0, sw_s, ↓reduceIte, Nat.reduceEqDiff, Nat.left_eq_add, Nat.add_eq_left, Nat.add_left_cancel_iff, Nat.reduceAdd, Int.reduceLT, Int.reduceLE, Int.reduceAdd, Int.reduceSub, Int.reduceNeg, Int.reduceMul, Int.reduceToNat, Int.reduceEq, reduceCtorEq, true_and, and_true, true_or, or_true, and_false, false_and, or_false, false_or, not_true_eq_false, not_false_eq_true, Nat.le_refl, and_self, Sum.inl.injEq, Sum.inr.injEq, Option.some.injEq, hS_2, k_isref, pd_0, pd_s, List.cons_append, List.nil_append, Option.toList_none, Option.toList_some, tX12_book, rX12_book]
    exact c0 q1
  · cases q2
    obtain ⟨n, en⟩ : ∃ n : Nat, z = (n : Int) := ⟨z.toNat, by omega⟩
    subst en
    obtain ⟨my, em⟩ : ∃ my : Nat, s 6 = (my : Int) := ⟨(s 6).toNat, by omega⟩
    simp only [Int.toNat_natCast] at c2 c3 c4
    have j1 : h4.2 57 = some (mO (mS (mS (mS s 0 0) 9 n) 8 0)) := by rw [q3]; exact hS_s _ _ _
    have jz : ∀ z, z ≠ 57 → h4.2 z = h.2 z := fun z hz => by rw [q3]; exact hS_n hz
    refine p_go [] 40 ?_
    simp only [st_0, st_1, st_2, st_3, st_4, st_5, st_6, st_7, st_8, st_9, st_10, st_11, st_12, st_13, st_14, st_15, st_16, st_17, st_18, st_19, st_20, st_21, st_22, st_23, st_24, st_25, st_26, st_27, st_28, st_29, st_30, st_31, st_32, st_33, st_34, st_34a, st_35, st_36, st_37, st_38, st_39, st_42, st_44, st_45, st_47, st_40, st_41, st_46, st_48, st_49, st_43, go_0, go_s, cut_0, cut_s, get_0, get_s, put_0, put_1, put_s, clr_0, clr_s, unl_i, unl_l, unl_r, unl_n, nth_0, nth_s, sf_0, sf_s, cnd_0, cnd_1, cnd_2, cnd_3, cnd_4, cnd_5, fit_0, fit_1, fit_2, en_0, en_i, en_l, en_r, kb_t, kb_f, kb_n, sw_0, sw_s, ↓reduceIte, Nat.reduceEqDiff, Nat.left_eq_add, Nat.add_eq_left, Nat.add_left_cancel_iff, Nat.reduceAdd, Int.reduceLT, Int.reduceLE, Int.reduceAdd, Int.reduceSub, Int.reduceNeg, Int.reduceMul, Int.reduceToNat, Int.reduceEq, reduceCtorEq, true_and, and_true, true_or, or_true, and_false, false_and, or_false, false_or, not_true_eq_false, not_false_eq_true, Nat.le_refl, and_self, Sum.inl.injEq, Sum.inr.injEq, Option.some.injEq, hS_2, k_isref, pd_0, pd_s, List.cons_append, List.nil_append, Option.toList_none, Option.toList_some, tX12_book, rX12_book, j1, hS_hS]
    have jH : hS h4 57 (mO (mS (mS (mS (mS s 0 0) 9 n) 8 0) 6 0)) = hS h 57 (mO (mS (mS (mS (mS s 0 0) 9 n) 8 0) 6 0)) := by rw [q3, hS_hS]
    have u1 : (hS h4 57 (mO (mS (mS (mS (mS s 0 0) 9 n) 8 0) 6 0))).2 57 = some (mO (mS (mS (mS (mS s 0 0) 9 n) 8 0) 6 0)) := hS_s _ _ _
    have uz : ∀ z, z ≠ 57 → (hS h4 57 (mO (mS (mS (mS (mS s 0 0) 9 n) 8 0) 6 0))).2 z = h.2 z := fun z hz => (hS_n hz).trans (jz z hz)
    have uF : ∀ t : F_, hS (hS h4 57 (mO (mS (mS (mS (mS s 0 0) 9 n) 8 0) 6 0))) 57 (mO t) = hS h 57 (mO t) := fun t => by rw [jH, hS_hS]
    change k_Wp x d 0 0 mX12_book P 0 0 28 [some (vR 57), some (vI n), some (vI (s 6)), none, none] [vI ((10 : Nat) : Int), vR 57] (hS h4 57 (mO (mS (mS (mS (mS s 0 0) 9 n) 8 0) 6 0)))
    rw [← jH] at c1 c2 c4
    have c3' : ∀ t : F_, t = mS (mS (mS (mS (mS s 0 0) 9 n) 8 0) 6 0) 19 (sz + 1 : Nat) → 0 ≤ (n : Int) ∧ (n : Int) ≤ s 8 → mSp g n 10 ∧ 1 ≤ s 6 ∧ s 6 ≤ 20 → fnd cs (cd_ g 0 n) 0 sz = -1 → sz < 40 → P (rI (sz + 1 : Nat)) (tmH (hS (hS h4 57 (mO (mS (mS (mS (mS s 0 0) 9 n) 8 0) 6 0))) 57 (mO t)) 67 400 40 800 L ln S mn g hf 10 20 sz n (s 6)) := by
      intro t ht a1 a2 a3 a4
      rw [uF, ht]
      exact c3 a1 a2 a3 a4
    generalize hS h4 57 (mO (mS (mS (mS (mS s 0 0) 9 n) 8 0) 6 0)) = h5 at u1 uz c1 c2 c3' c4 ⊢
    generalize et : mS (mS (mS (mS s 0 0) 9 n) 8 0) 6 0 = t at u1 c3' 
    have t9 : t 9 = n := by rw [← et]; rfl
    have tF : t 19 = sz := by rw [← et]; exact hss
    refine cVQ (d' := 1) [vI ((10 : Nat) : Int)] [] l_12_156 u1 (e_mspell u1 ((uz 62 (by decide)).trans h2) (by omega) hg (Nat.le_refl 1)) (by omega) ?_ (fun E h' q => by rcases q.2 with ⟨_, q⟩ | ⟨_, q⟩ <;> cases q)
    intro r2 h6' ⟨v1, v2⟩
    subst v1
    rw [t9] at v2
    rcases v2 with ⟨v2, v3⟩ | ⟨v2, v3⟩
    · cases v3
      have fin : 1 ≤ s 6 → s 6 ≤ 20 → k_Wp x d 0 0 mX12_book P 0 0 47 [some (vR 57), some (vI n), some (vI (s 6)), none, none] [] h6' := by
        intro w0 w1
        have hc : mSp g n 10 ∧ 1 ≤ s 6 ∧ s 6 ≤ 20 := ⟨v2, w0, w1⟩
        have hn10 : (n : Int) ≤ 10 := v2.2.1
        have al : alls g 0 n := by have := v2.2.2; rw [Int.toNat_natCast] at this; exact this
        refine p_go [] 40 ?_
        simp only [st_0, st_1, st_2, st_3, st_4, st_5, st_6, st_7, st_8, st_9, st_10, st_11, st_12, st_13, st_14, st_15, st_16, st_17, st_18, st_19, st_20, st_21, st_22, st_23, st_24, st_25, st_26, st_27, st_28, st_29, st_30, st_31, st_32, st_33, st_34, st_34a, st_35, st_36, st_37, st_38, st_39, st_42, st_44, st_45, st_47, st_40, st_41, st_46, st_48, st_49, st_43, go_0, go_s, cut_0, cut_s, get_0, get_s, put_0, put_1, put_s, clr_0, clr_s, unl_i, unl_l, unl_r, unl_n, nth_0, nth_s, sf_0, sf_s, cnd_0, cnd_1, cnd_2, cnd_3, cnd_4, cnd_5, fit_0, fit_1, fit_2, en_0, en_i, en_l, en_r, kb_t, kb_f, kb_n, sw_0, sw_s, ↓reduceIte, Nat.reduceEqDiff, Nat.left_eq_add, Nat.add_eq_left, Nat.add_left_cancel_iff, Nat.reduceAdd, Int.reduceLT, Int.reduceLE, Int.reduceAdd, Int.reduceSub, Int.reduceNeg, Int.reduceMul, Int.reduceToNat, Int.reduceEq, reduceCtorEq, true_and, and_true, true_or, or_true, and_false, false_and, or_false, false_or, not_true_eq_false, not_false_eq_true, Nat.le_refl, and_self, Sum.inl.injEq, Sum.inr.injEq, Option.some.injEq, hS_2, k_isref, pd_0, pd_s, List.cons_append, List.nil_append, Option.toList_none, Option.toList_some, tX12_book, rX12_book, u1, tF, t9]
        refine cS (d' := 0) [vR 67, vI ((10 : Nat) : Int), vR (67 + 1), vI sz, vR 62, vI ((0 : Nat) : Int), vI n] [] l_12_162 (e_mfind (A := 67) (B := 67 + 1) ((uz 67 (by decide)).trans hL) ((uz (67 + 1) (by decide)).trans hl) ((uz 62 (by decide)).trans h2) hsz (by decide) (by decide) (by decide) (by omega) hR al) (by omega) (p_go [109] 40 ?_)
        rcases fnd_b cs (cd_ g 0 n) sz 0 with hf | ⟨k, f1, f2, f3, f4⟩
        · rw [hf]
          by_cases h60 : sz = 40
          · have e60 : ((sz : Nat) : Int) = 40 := by omega
            simp only [st_0, st_1, st_2, st_3, st_4, st_5, st_6, st_7, st_8, st_9, st_10, st_11, st_12, st_13, st_14, st_15, st_16, st_17, st_18, st_19, st_20, st_21, st_22, st_23, st_24, st_25, st_26, st_27, st_28, st_29, st_30, st_31, st_32, st_33, st_34, st_34a, st_35, st_36, st_37, st_38, st_39, st_42, st_44, st_45, st_47, st_40, st_41, st_46, st_48, st_49, st_43, go_0, go_s, cut_0, cut_s, get_0, get_s, put_0, put_1, put_s, clr_0, clr_s, unl_i, unl_l, unl_r, unl_n, nth_0, nth_s, sf_0, sf_s, cnd_0, cnd_1, cnd_2, cnd_3, cnd_4, cnd_5, fit_0, fit_1, fit_2, en_0, en_i, en_l, en_r, kb_t, kb_f, kb_n, sw_0, sw_s, ↓reduceIte, Nat.reduceEqDiff, Nat.left_eq_add, Nat.add_eq_left, Nat.add_left_cancel_iff, Nat.reduceAdd, Int.reduceLT, Int.reduceLE, Int.reduceAdd, Int.reduceSub, Int.reduceNeg, Int.reduceMul, Int.reduceToNat, Int.reduceEq, reduceCtorEq, true_and, and_true, true_or, or_true, and_false, false_and, or_false, false_or, not_true_eq_false, not_false_eq_true, Nat.le_refl, and_self, Sum.inl.injEq, Sum.inr.injEq, Option.some.injEq, hS_2, k_isref, pd_0, pd_s, List.cons_append, List.nil_append, Option.toList_none, Option.toList_some, tX12_book, rX12_book, u1, tF, e60]
            exact c2 q1 hc hf h60
          · have e60 : (((sz : Nat) : Int) = 40) = False := eq_false (by omega)
            simp only [st_0, st_1, st_2, st_3, st_4, st_5, st_6, st_7, st_8, st_9, st_10, st_11, st_12, st_13, st_14, st_15, st_16, st_17, st_18, st_19, st_20, st_21, st_22, st_23, st_24, st_25, st_26, st_27, st_28, st_29, st_30, st_31, st_32, st_33, st_34, st_34a, st_35, st_36, st_37, st_38, st_39, st_42, st_44, st_45, st_47, st_40, st_41, st_46, st_48, st_49, st_43, go_0, go_s, cut_0, cut_s, get_0, get_s, put_0, put_1, put_s, clr_0, clr_s, unl_i, unl_l, unl_r, unl_n, nth_0, nth_s, sf_0, sf_s, cnd_0, cnd_1, cnd_2, cnd_3, cnd_4, cnd_5, fit_0, fit_1, fit_2, en_0, en_i, en_l, en_r, kb_t, kb_f, kb_n, sw_0, sw_s, ↓reduceIte, Nat.reduceEqDiff, Nat.left_eq_add, Nat.add_eq_left, Nat.add_left_cancel_iff, Nat.reduceAdd, Int.reduceLT, Int.reduceLE, Int.reduceAdd, Int.reduceSub, Int.reduceNeg, Int.reduceMul, Int.reduceToNat, Int.reduceEq, reduceCtorEq, true_and, and_true, true_or, or_true, and_false, false_and, or_false, false_or, not_true_eq_false, not_false_eq_true, Nat.le_refl, and_self, Sum.inl.injEq, Sum.inr.injEq, Option.some.injEq, hS_2, k_isref, pd_0, pd_s, List.cons_append, List.nil_append, Option.toList_none, Option.toList_some, tX12_book, rX12_book, u1, tF, e60, nat1]
            refine ⟨⟨by omega, by omega⟩, ?_⟩
            have hlast := c3' (mS t 19 (sz + 1 : Nat)) rfl q1 hc hf (by omega)
            have y1 : (hS h6' 57 (mO (mS t 19 (sz + 1 : Nat)))).2 57 = some (mO (mS t 19 (sz + 1 : Nat))) := hS_s _ _ _
            have yz : ∀ z, z ≠ 57 → (hS h6' 57 (mO (mS t 19 (sz + 1 : Nat)))).2 z = h.2 z := fun z hz => (hS_n hz).trans (uz z hz)
            have hw := w_bookT (x := x) (d := d) (P := P) (z := n) (k := sz) (n := n) (many := my) y1 ((yz 62 (by decide)).trans h2) ((yz 61 (by decide)).trans h3) ((yz _ (by decide)).trans hL) ((yz _ (by decide)).trans hl) ((yz _ (by decide)).trans hS1) ((yz _ (by decide)).trans hm) (show mS t 19 (sz + 1 : Nat) 9 = n from t9) (by omega) (by omega) (by omega) (by rw [← em]; exact hlast)
            rw [← em] at hw
            exact hw
        · have e60 : (f : Prop) → True := fun _ => trivial
          rw [f3]
          have e61 : ¬ ((k : Nat) : Int) < 0 := by omega
          have e62 : 0 ≤ ((k : Nat) : Int) := by omega
          simp only [st_0, st_1, st_2, st_3, st_4, st_5, st_6, st_7, st_8, st_9, st_10, st_11, st_12, st_13, st_14, st_15, st_16, st_17, st_18, st_19, st_20, st_21, st_22, st_23, st_24, st_25, st_26, st_27, st_28, st_29, st_30, st_31, st_32, st_33, st_34, st_34a, st_35, st_36, st_37, st_38, st_39, st_42, st_44, st_45, st_47, st_40, st_41, st_46, st_48, st_49, st_43, go_0, go_s, cut_0, cut_s, get_0, get_s, put_0, put_1, put_s, clr_0, clr_s, unl_i, unl_l, unl_r, unl_n, nth_0, nth_s, sf_0, sf_s, cnd_0, cnd_1, cnd_2, cnd_3, cnd_4, cnd_5, fit_0, fit_1, fit_2, en_0, en_i, en_l, en_r, kb_t, kb_f, kb_n, sw_0, sw_s, ↓reduceIte, Nat.reduceEqDiff, Nat.left_eq_add, Nat.add_eq_left, Nat.add_left_cancel_iff, Nat.reduceAdd, Int.reduceLT, Int.reduceLE, Int.reduceAdd, Int.reduceSub, Int.reduceNeg, Int.reduceMul, Int.reduceToNat, Int.reduceEq, reduceCtorEq, true_and, and_true, true_or, or_true, and_false, false_and, or_false, false_or, not_true_eq_false, not_false_eq_true, Nat.le_refl, and_self, Sum.inl.injEq, Sum.inr.injEq, Option.some.injEq, hS_2, k_isref, pd_0, pd_s, List.cons_append, List.nil_append, Option.toList_none, Option.toList_some, tX12_book, rX12_book, e61, e62]
          have hlast := c4 q1 hc k f3 (by omega)
          have hw := w_bookT (x := x) (d := d) (P := P) (z := n) (k := k) (n := n) (many := my) u1 ((uz 62 (by decide)).trans h2) ((uz 61 (by decide)).trans h3) ((uz _ (by decide)).trans hL) ((uz _ (by decide)).trans hl) ((uz _ (by decide)).trans hS1) ((uz _ (by decide)).trans hm) t9 (by omega) (by omega) (by omega) (by rw [← em, tF]; exact hlast)
          rw [← em] at hw
          exact hw
      refine p_go [47] 40 ?_
      simp only [st_0, st_1, st_2, st_3, st_4, st_5, st_6, st_7, st_8, st_9, st_10, st_11, st_12, st_13, st_14, st_15, st_16, st_17, st_18, st_19, st_20, st_21, st_22, st_23, st_24, st_25, st_26, st_27, st_28, st_29, st_30, st_31, st_32, st_33, st_34, st_34a, st_35, st_36, st_37, st_38, st_39, st_42, st_44, st_45, st_47, st_40, st_41, st_46, st_48, st_49, st_43, go_0, go_s, cut_0, cut_s, get_0, get_s, put_0, put_1, put_s, clr_0, clr_s, unl_i, unl_l, unl_r, unl_n, nth_0, nth_s, sf_0, sf_s, cnd_0, cnd_1, cnd_2, cnd_3, cnd_4, cnd_5, fit_0, fit_1, fit_2, en_0, en_i, en_l, en_r, kb_t, kb_f, kb_n, sw_0, sw_s, ↓reduceIte, Nat.reduceEqDiff, Nat.left_eq_add, Nat.add_eq_left, Nat.add_left_cancel_iff, Nat.reduceAdd, Int.reduceLT, Int.reduceLE, Int.reduceAdd, Int.reduceSub, Int.reduceNeg, Int.reduceMul, Int.reduceToNat, Int.reduceEq, reduceCtorEq, true_and, and_true, true_or, or_true, and_false, false_and, or_false, false_or, not_true_eq_false, not_false_eq_true, Nat.le_refl, and_self, Sum.inl.injEq, Sum.inr.injEq, Option.some.injEq, hS_2, k_isref, pd_0, pd_s, List.cons_append, List.nil_append, Option.toList_none, Option.toList_some, tX12_book, rX12_book]
      refine k_brI (fun w0 => c1 q1 (fun w => by omega)) (fun w0 => k_brI (fun w1 => fin (by omega) w1) (fun w1 => c1 q1 (fun w => by omega)))
    · cases v3
      refine p_go [] 40 ?_
      simp only [st_0, st_1, st_2, st_3, st_4, st_5, st_6, st_7, st_8, st_9, st_10, st_11, st_12, st_13, st_14, st_15, st_16, st_17, st_18, st_19, st_20, st_21, st_22, st_23, st_24, st_25, st_26, st_27, st_28, st_29, st_30, st_31, st_32, st_33, st_34, st_34a, st_35, st_36, st_37, st_38, st_39, st_42, st_44, st_45, st_47, st_40, st_41, st_46, st_48, st_49, st_43, go_0, go_s, cut_0, cut_s, get_0, get_s, put_0, put_1, put_s, clr_0, clr_s, unl_i, unl_l, unl_r, unl_n, nth_0, nth_s, sf_0, sf_s, cnd_0, cnd_1, cnd_2, cnd_3, cnd_4, cnd_5, fit_0, fit_1, fit_2, en_0, en_i, en_l, en_r, kb_t, kb_f, kb_n, sw_0, sw_s, ↓reduceIte, Nat.reduceEqDiff, Nat.left_eq_add, Nat.add_eq_left, Nat.add_left_cancel_iff, Nat.reduceAdd, Int.reduceLT, Int.reduceLE, Int.reduceAdd, Int.reduceSub, Int.reduceNeg, Int.reduceMul, Int.reduceToNat, Int.reduceEq, reduceCtorEq, true_and, and_true, true_or, or_true, and_false, false_and, or_false, false_or, not_true_eq_false, not_false_eq_true, Nat.le_refl, and_self, Sum.inl.injEq, Sum.inr.injEq, Option.some.injEq, hS_2, k_isref, pd_0, pd_s, List.cons_append, List.nil_append, Option.toList_none, Option.toList_some, tX12_book, rX12_book]
      exact c1 q1 (fun w => v2 w.1)
end Mbook65
