/-! the law's cases (written by wip/whole/gen99.py) -/
set_option maxRecDepth 100000 in
set_option maxHeartbeats 4000000 in
theorem w_law_18 {n i L k nn K N : Nat} {xf gg : F_} {h : PH} (hI : Inv n h) (hx : h.2 0 = some (.inl (4, L, xf))) (h106 : h.2 91 = some (.inl (3, 1, gg))) (hi : i + 6 ≤ L) (hL : L ≤ 3072) (hr : ∀ j, j < L → iR (xf j)) (hn : n < 99999) (hk : k + 3 ≤ K) (hnn : nn + 18 ≤ N)
    (kk : ∀ (h' : PH) (g' : F_) (k' n' : Nat), k' ≤ k + 3 → n' ≤ nn + 18 → Inv (n + 1) h' → h'.2 0 = some (.inl (4, L, xf)) → h'.2 91 = some (.inl (3, 1, g')) → k_Wp false 30 K N mL_law (fun o _ => o = rI 1) k' n' 1277 [some (vR 0), some (vR 1), some (vR 57), some (vR 91), some (vI (i : Int)), none, none] [] h') :
    k_Wp false 30 K N mL_law (fun o _ => o = rI 1) k nn 1046 [some (vR 0), some (vR 1), some (vR 57), some (vR 91), some (vI (i : Int)), none, none] [] h := by
  obtain ⟨s, C, e, sp, pc, sz, cl, cs, pk, pm, hB⟩ := hI
  have o1 := hB.2.1
  have o72 := hB.1
  have e1 : ((i : Int) + 1).toNat = i + 1 := by omega
  refine p_go [] 60 ?_
  simp only [st_0, st_1, st_2, st_3, st_4, st_5, st_6, st_7, st_8, st_9, st_10, st_11, st_12, st_13, st_14, st_15, st_16, st_17, st_18, st_19, st_20, st_21, st_22, st_23, st_24, st_25, st_26, st_27, st_28, st_29, st_30, st_31, st_32, st_33, st_34, st_34a, st_35, st_36, st_37, st_38, st_39, st_42, st_44, st_45, st_47, st_40, st_41, st_46, st_48, st_49, st_43, go_0, go_s, cut_0, cut_s, get_0, get_s, put_0, put_1, put_s, clr_0, clr_s, unl_i, unl_l, unl_r, unl_n, nth_0, nth_s, sf_0, sf_s, cnd_0, cnd_1, cnd_2, cnd_3, cnd_4, cnd_5, fit_0, fit_1, fit_2, en_0, en_i, en_l, en_r, kb_t, kb_f, kb_n, sw_0, sw_s, ↓reduceIte, Nat.reduceEqDiff, Nat.left_eq_add, Nat.add_eq_left, Nat.add_left_cancel_iff, Nat.reduceAdd, Int.reduceLT, Int.reduceLE, Int.reduceAdd, Int.reduceSub, Int.reduceNeg, Int.reduceMul, Int.reduceToNat, Int.reduceEq, reduceCtorEq, true_and, and_true, true_or, or_true, and_false, false_and, or_false, false_or, not_true_eq_false, not_false_eq_true, Nat.le_refl, and_self, Sum.inl.injEq, Sum.inr.injEq, Option.some.injEq, hS_2, k_isref, pd_0, pd_s, List.cons_append, List.nil_append, Option.toList_none, Option.toList_some, tL_law_18, rL_law_18, hx, e1]
  (repeat (first | refine ⟨⟨by omega, by omega⟩, ?_⟩ | refine And.intro (by omega) ?_))
  refine cVQ (d' := 22) [vI (xf (i + 1))] [] l_13_137 o1 (v_again hB (xf (i + 1))) (by decide) (fun r h' p => ?_) (fun E h' q => by obtain ⟨_, _, _, _, _, q, _⟩ := q; rcases q with ⟨_, q⟩ | ⟨_, q, _⟩ <;> cases q) (by omega) (by omega)
  obtain ⟨p0, p6, p7, code, a, q, pg⟩ := p
  obtain ⟨rfl, pe⟩ : code = 0 ∧ Sum.inl r = rI a := by
    rcases q with q | ⟨E, pE, pe⟩
    · exact q
    · cases pE
  cases pe
  have pm := pg h' (fun z _ => rfl)
  have p106 := p6.trans h106
  have hx' := p0.trans hx
  have o72' := p7.trans o72
  refine p_go [] 60 ?_
  simp only [st_0, st_1, st_2, st_3, st_4, st_5, st_6, st_7, st_8, st_9, st_10, st_11, st_12, st_13, st_14, st_15, st_16, st_17, st_18, st_19, st_20, st_21, st_22, st_23, st_24, st_25, st_26, st_27, st_28, st_29, st_30, st_31, st_32, st_33, st_34, st_34a, st_35, st_36, st_37, st_38, st_39, st_42, st_44, st_45, st_47, st_40, st_41, st_46, st_48, st_49, st_43, go_0, go_s, cut_0, cut_s, get_0, get_s, put_0, put_1, put_s, clr_0, clr_s, unl_i, unl_l, unl_r, unl_n, nth_0, nth_s, sf_0, sf_s, cnd_0, cnd_1, cnd_2, cnd_3, cnd_4, cnd_5, fit_0, fit_1, fit_2, en_0, en_i, en_l, en_r, kb_t, kb_f, kb_n, sw_0, sw_s, ↓reduceIte, Nat.reduceEqDiff, Nat.left_eq_add, Nat.add_eq_left, Nat.add_left_cancel_iff, Nat.reduceAdd, Int.reduceLT, Int.reduceLE, Int.reduceAdd, Int.reduceSub, Int.reduceNeg, Int.reduceMul, Int.reduceToNat, Int.reduceEq, reduceCtorEq, true_and, and_true, true_or, or_true, and_false, false_and, or_false, false_or, not_true_eq_false, not_false_eq_true, Nat.le_refl, and_self, Sum.inl.injEq, Sum.inr.injEq, Option.some.injEq, hS_2, k_isref, pd_0, pd_s, List.cons_append, List.nil_append, Option.toList_none, Option.toList_some, tL_law_18, rL_law_18, hx', e1]
  (repeat (first | refine ⟨⟨by omega, by omega⟩, ?_⟩ | refine And.intro (by omega) ?_))
  refine cVQ (d' := 22) [vI (xf (i + 1))] [vI a] l_13_140 o72' pm (by decide) (fun r2 h2 q => ?_) (fun E h2 q => by obtain ⟨_, _, q, _⟩ := q; cases q) (by omega) (by omega)
  obtain ⟨b, s2, qe, q72, q0, qb, qI, qf0, qf6⟩ := q
  cases qe
  have h106' := qf6.trans p106
  have hx2 := qf0.trans hx'
  have e9 := qb rfl
  refine p_go [1277] 60 ?_
  simp only [st_0, st_1, st_2, st_3, st_4, st_5, st_6, st_7, st_8, st_9, st_10, st_11, st_12, st_13, st_14, st_15, st_16, st_17, st_18, st_19, st_20, st_21, st_22, st_23, st_24, st_25, st_26, st_27, st_28, st_29, st_30, st_31, st_32, st_33, st_34, st_34a, st_35, st_36, st_37, st_38, st_39, st_42, st_44, st_45, st_47, st_40, st_41, st_46, st_48, st_49, st_43, go_0, go_s, cut_0, cut_s, get_0, get_s, put_0, put_1, put_s, clr_0, clr_s, unl_i, unl_l, unl_r, unl_n, nth_0, nth_s, sf_0, sf_s, cnd_0, cnd_1, cnd_2, cnd_3, cnd_4, cnd_5, fit_0, fit_1, fit_2, en_0, en_i, en_l, en_r, kb_t, kb_f, kb_n, sw_0, sw_s, ↓reduceIte, Nat.reduceEqDiff, Nat.left_eq_add, Nat.add_eq_left, Nat.add_left_cancel_iff, Nat.reduceAdd, Int.reduceLT, Int.reduceLE, Int.reduceAdd, Int.reduceSub, Int.reduceNeg, Int.reduceMul, Int.reduceToNat, Int.reduceEq, reduceCtorEq, true_and, and_true, true_or, or_true, and_false, false_and, or_false, false_or, not_true_eq_false, not_false_eq_true, Nat.le_refl, and_self, Sum.inl.injEq, Sum.inr.injEq, Option.some.injEq, hS_2, k_isref, pd_0, pd_s, List.cons_append, List.nil_append, Option.toList_none, Option.toList_some, tL_law_18, rL_law_18]
  refine k_brT (by omega) ?_
  exact kk h2 gg _ _ (by omega) (by omega) qI hx2 h106'
set_option maxRecDepth 100000 in
set_option maxHeartbeats 4000000 in
theorem w_law_19 {n i L k nn K N : Nat} {xf gg : F_} {h : PH} (hI : Inv n h) (hx : h.2 0 = some (.inl (4, L, xf))) (h106 : h.2 91 = some (.inl (3, 1, gg))) (hi : i + 6 ≤ L) (hL : L ≤ 3072) (hr : ∀ j, j < L → iR (xf j)) (hn : n < 99999) (hk : k + 3 ≤ K) (hnn : nn + 18 ≤ N)
    (kk : ∀ (h' : PH) (g' : F_) (k' n' : Nat), k' ≤ k + 3 → n' ≤ nn + 18 → Inv (n + 1) h' → h'.2 0 = some (.inl (4, L, xf)) → h'.2 91 = some (.inl (3, 1, g')) → k_Wp false 30 K N mL_law (fun o _ => o = rI 1) k' n' 1277 [some (vR 0), some (vR 1), some (vR 57), some (vR 91), some (vI (i : Int)), none, none] [] h') :
    k_Wp false 30 K N mL_law (fun o _ => o = rI 1) k nn 1071 [some (vR 0), some (vR 1), some (vR 57), some (vR 91), some (vI (i : Int)), none, none] [] h := by
  obtain ⟨s, C, e, sp, pc, sz, cl, cs, pk, pm, hB⟩ := hI
  have o1 := hB.2.1
  have o72 := hB.1
  refine p_go [] 60 ?_
  simp only [st_0, st_1, st_2, st_3, st_4, st_5, st_6, st_7, st_8, st_9, st_10, st_11, st_12, st_13, st_14, st_15, st_16, st_17, st_18, st_19, st_20, st_21, st_22, st_23, st_24, st_25, st_26, st_27, st_28, st_29, st_30, st_31, st_32, st_33, st_34, st_34a, st_35, st_36, st_37, st_38, st_39, st_42, st_44, st_45, st_47, st_40, st_41, st_46, st_48, st_49, st_43, go_0, go_s, cut_0, cut_s, get_0, get_s, put_0, put_1, put_s, clr_0, clr_s, unl_i, unl_l, unl_r, unl_n, nth_0, nth_s, sf_0, sf_s, cnd_0, cnd_1, cnd_2, cnd_3, cnd_4, cnd_5, fit_0, fit_1, fit_2, en_0, en_i, en_l, en_r, kb_t, kb_f, kb_n, sw_0, sw_s, ↓reduceIte, Nat.reduceEqDiff, Nat.left_eq_add, Nat.add_eq_left, Nat.add_left_cancel_iff, Nat.reduceAdd, Int.reduceLT, Int.reduceLE, Int.reduceAdd, Int.reduceSub, Int.reduceNeg, Int.reduceMul, Int.reduceToNat, Int.reduceEq, reduceCtorEq, true_and, and_true, true_or, or_true, and_false, false_and, or_false, false_or, not_true_eq_false, not_false_eq_true, Nat.le_refl, and_self, Sum.inl.injEq, Sum.inr.injEq, Option.some.injEq, hS_2, k_isref, pd_0, pd_s, List.cons_append, List.nil_append, Option.toList_none, Option.toList_some, tL_law_19, rL_law_19, hx]
  refine cSW (d' := 23) (K' := 1) (N' := 6) [vR 1, vR 91] [] l_13_141 (e_Lslot (v_slot hB) o1 h106) (fun E h' q => by obtain ⟨_, _, q, _⟩ := q; cases q) (by decide) (by omega) (by omega) (fun r h' p => ?_)
  obtain ⟨code, a, pe, p0, p7, ⟨g', p106, pa⟩, pm⟩ := p
  cases pe
  have hx' := p0.trans hx
  have o72' := p7.trans o72
  refine p_go [] 60 ?_
  simp only [st_0, st_1, st_2, st_3, st_4, st_5, st_6, st_7, st_8, st_9, st_10, st_11, st_12, st_13, st_14, st_15, st_16, st_17, st_18, st_19, st_20, st_21, st_22, st_23, st_24, st_25, st_26, st_27, st_28, st_29, st_30, st_31, st_32, st_33, st_34, st_34a, st_35, st_36, st_37, st_38, st_39, st_42, st_44, st_45, st_47, st_40, st_41, st_46, st_48, st_49, st_43, go_0, go_s, cut_0, cut_s, get_0, get_s, put_0, put_1, put_s, clr_0, clr_s, unl_i, unl_l, unl_r, unl_n, nth_0, nth_s, sf_0, sf_s, cnd_0, cnd_1, cnd_2, cnd_3, cnd_4, cnd_5, fit_0, fit_1, fit_2, en_0, en_i, en_l, en_r, kb_t, kb_f, kb_n, sw_0, sw_s, ↓reduceIte, Nat.reduceEqDiff, Nat.left_eq_add, Nat.add_eq_left, Nat.add_left_cancel_iff, Nat.reduceAdd, Int.reduceLT, Int.reduceLE, Int.reduceAdd, Int.reduceSub, Int.reduceNeg, Int.reduceMul, Int.reduceToNat, Int.reduceEq, reduceCtorEq, true_and, and_true, true_or, or_true, and_false, false_and, or_false, false_or, not_true_eq_false, not_false_eq_true, Nat.le_refl, and_self, Sum.inl.injEq, Sum.inr.injEq, Option.some.injEq, hS_2, k_isref, pd_0, pd_s, List.cons_append, List.nil_append, Option.toList_none, Option.toList_some, tL_law_19, rL_law_19, hx']
  refine cVQ (d' := 22) [] [] l_13_144 o72' pm (by decide) (fun r2 h2 q => ?_) (fun E h2 q => by obtain ⟨_, _, q, _⟩ := q; cases q) (by omega) (by omega)
  obtain ⟨b, s2, qe, q72, q0, qb, qI, qf0, qf6⟩ := q
  cases qe
  have h106' := qf6.trans p106
  have hx2 := qf0.trans hx'
  refine p_go [] 60 ?_
  simp only [st_0, st_1, st_2, st_3, st_4, st_5, st_6, st_7, st_8, st_9, st_10, st_11, st_12, st_13, st_14, st_15, st_16, st_17, st_18, st_19, st_20, st_21, st_22, st_23, st_24, st_25, st_26, st_27, st_28, st_29, st_30, st_31, st_32, st_33, st_34, st_34a, st_35, st_36, st_37, st_38, st_39, st_42, st_44, st_45, st_47, st_40, st_41, st_46, st_48, st_49, st_43, go_0, go_s, cut_0, cut_s, get_0, get_s, put_0, put_1, put_s, clr_0, clr_s, unl_i, unl_l, unl_r, unl_n, nth_0, nth_s, sf_0, sf_s, cnd_0, cnd_1, cnd_2, cnd_3, cnd_4, cnd_5, fit_0, fit_1, fit_2, en_0, en_i, en_l, en_r, kb_t, kb_f, kb_n, sw_0, sw_s, ↓reduceIte, Nat.reduceEqDiff, Nat.left_eq_add, Nat.add_eq_left, Nat.add_left_cancel_iff, Nat.reduceAdd, Int.reduceLT, Int.reduceLE, Int.reduceAdd, Int.reduceSub, Int.reduceNeg, Int.reduceMul, Int.reduceToNat, Int.reduceEq, reduceCtorEq, true_and, and_true, true_or, or_true, and_false, false_and, or_false, false_or, not_true_eq_false, not_false_eq_true, Nat.le_refl, and_self, Sum.inl.injEq, Sum.inr.injEq, Option.some.injEq, hS_2, k_isref, pd_0, pd_s, List.cons_append, List.nil_append, Option.toList_none, Option.toList_some, tL_law_19, rL_law_19]
  refine cV (d' := 0) [] [] l_13_74 q72 (e_mthrown q72) (by decide) (p_go [1277] 60 ?_) (by omega) (by omega)
  rw [q0]
  simp only [st_0, st_1, st_2, st_3, st_4, st_5, st_6, st_7, st_8, st_9, st_10, st_11, st_12, st_13, st_14, st_15, st_16, st_17, st_18, st_19, st_20, st_21, st_22, st_23, st_24, st_25, st_26, st_27, st_28, st_29, st_30, st_31, st_32, st_33, st_34, st_34a, st_35, st_36, st_37, st_38, st_39, st_42, st_44, st_45, st_47, st_40, st_41, st_46, st_48, st_49, st_43, go_0, go_s, cut_0, cut_s, get_0, get_s, put_0, put_1, put_s, clr_0, clr_s, unl_i, unl_l, unl_r, unl_n, nth_0, nth_s, sf_0, sf_s, cnd_0, cnd_1, cnd_2, cnd_3, cnd_4, cnd_5, fit_0, fit_1, fit_2, en_0, en_i, en_l, en_r, kb_t, kb_f, kb_n, sw_0, sw_s, ↓reduceIte, Nat.reduceEqDiff, Nat.left_eq_add, Nat.add_eq_left, Nat.add_left_cancel_iff, Nat.reduceAdd, Int.reduceLT, Int.reduceLE, Int.reduceAdd, Int.reduceSub, Int.reduceNeg, Int.reduceMul, Int.reduceToNat, Int.reduceEq, reduceCtorEq, true_and, and_true, true_or, or_true, and_false, false_and, or_false, false_or, not_true_eq_false, not_false_eq_true, Nat.le_refl, and_self, Sum.inl.injEq, Sum.inr.injEq, Option.some.injEq, hS_2, k_isref, pd_0, pd_s, List.cons_append, List.nil_append, Option.toList_none, Option.toList_some, tL_law_19, rL_law_19, h106']
  refine k_brI (fun c => ?_) (fun c => ?_)
  · have e9 : g' 0 = b := by rw [pa c, qb c]
    have e8 : k_lcmp (g' 0) b = 0 := by unfold k_lcmp; rw [e9, if_neg (by omega), if_pos rfl]
    refine And.intro (by decide) (k_brT e8 ?_)
    exact p_sub (by (repeat (first | exact le_nil | refine le_s ?_ | refine le_n ?_))) (kk h2 g' _ _ (by omega) (by omega) qI hx2 h106')
  · exact p_sub (by (repeat (first | exact le_nil | refine le_s ?_ | refine le_n ?_))) (kk h2 g' _ _ (by omega) (by omega) qI hx2 h106')
set_option maxRecDepth 100000 in
set_option maxHeartbeats 4000000 in
theorem w_law_20 {n i L k nn K N : Nat} {xf gg : F_} {h : PH} (hI : Inv n h) (hx : h.2 0 = some (.inl (4, L, xf))) (h106 : h.2 91 = some (.inl (3, 1, gg))) (hi : i + 6 ≤ L) (hL : L ≤ 3072) (hr : ∀ j, j < L → iR (xf j)) (hn : n < 99999) (hk : k + 3 ≤ K) (hnn : nn + 18 ≤ N)
    (kk : ∀ (h' : PH) (g' : F_) (k' n' : Nat), k' ≤ k + 3 → n' ≤ nn + 18 → Inv (n + 1) h' → h'.2 0 = some (.inl (4, L, xf)) → h'.2 91 = some (.inl (3, 1, g')) → k_Wp false 30 K N mL_law (fun o _ => o = rI 1) k' n' 1277 [some (vR 0), some (vR 1), some (vR 57), some (vR 91), some (vI (i : Int)), none, none] [] h') :
    k_Wp false 30 K N mL_law (fun o _ => o = rI 1) k nn 1115 [some (vR 0), some (vR 1), some (vR 57), some (vR 91), some (vI (i : Int)), none, none] [] h := by
  obtain ⟨s, C, e, sp, pc, sz, cl, cs, pk, pm, hB⟩ := hI
  have o1 := hB.2.1
  have o72 := hB.1
  have e1 : ((i : Int) + 1).toNat = i + 1 := by omega
  have e2 : ((i : Int) + 2).toNat = i + 2 := by omega
  refine p_go [] 60 ?_
  simp only [st_0, st_1, st_2, st_3, st_4, st_5, st_6, st_7, st_8, st_9, st_10, st_11, st_12, st_13, st_14, st_15, st_16, st_17, st_18, st_19, st_20, st_21, st_22, st_23, st_24, st_25, st_26, st_27, st_28, st_29, st_30, st_31, st_32, st_33, st_34, st_34a, st_35, st_36, st_37, st_38, st_39, st_42, st_44, st_45, st_47, st_40, st_41, st_46, st_48, st_49, st_43, go_0, go_s, cut_0, cut_s, get_0, get_s, put_0, put_1, put_s, clr_0, clr_s, unl_i, unl_l, unl_r, unl_n, nth_0, nth_s, sf_0, sf_s, cnd_0, cnd_1, cnd_2, cnd_3, cnd_4, cnd_5, fit_0, fit_1, fit_2, en_0, en_i, en_l, en_r, kb_t, kb_f, kb_n, sw_0, sw_s, ↓reduceIte, Nat.reduceEqDiff, Nat.left_eq_add, Nat.add_eq_left, Nat.add_left_cancel_iff, Nat.reduceAdd, Int.reduceLT, Int.reduceLE, Int.reduceAdd, Int.reduceSub, Int.reduceNeg, Int.reduceMul, Int.reduceToNat, Int.reduceEq, reduceCtorEq, true_and, and_true, true_or, or_true, and_false, false_and, or_false, false_or, not_true_eq_false, not_false_eq_true, Nat.le_refl, and_self, Sum.inl.injEq, Sum.inr.injEq, Option.some.injEq, hS_2, k_isref, pd_0, pd_s, List.cons_append, List.nil_append, Option.toList_none, Option.toList_some, tL_law_20, rL_law_20, hx, e1, e2]
  (repeat (first | refine ⟨⟨by omega, by omega⟩, ?_⟩ | refine And.intro (by omega) ?_))
  refine cSW (d' := 23) (K' := 3) (N' := 18) [vR 1, vI (xf (i + 1)), vI (xf (i + 2)), vR 91] [] l_13_145 (e_Lword (v_word hB (xf (i + 1)) (xf (i + 2))) o1 h106) (fun E h' q => by obtain ⟨_, _, q, _⟩ := q; cases q) (by decide) (by omega) (by omega) (fun r h' p => ?_)
  obtain ⟨code, a, pe, p0, p7, ⟨g', p106, pa⟩, pm⟩ := p
  cases pe
  have hx' := p0.trans hx
  have o72' := p7.trans o72
  refine p_go [] 60 ?_
  simp only [st_0, st_1, st_2, st_3, st_4, st_5, st_6, st_7, st_8, st_9, st_10, st_11, st_12, st_13, st_14, st_15, st_16, st_17, st_18, st_19, st_20, st_21, st_22, st_23, st_24, st_25, st_26, st_27, st_28, st_29, st_30, st_31, st_32, st_33, st_34, st_34a, st_35, st_36, st_37, st_38, st_39, st_42, st_44, st_45, st_47, st_40, st_41, st_46, st_48, st_49, st_43, go_0, go_s, cut_0, cut_s, get_0, get_s, put_0, put_1, put_s, clr_0, clr_s, unl_i, unl_l, unl_r, unl_n, nth_0, nth_s, sf_0, sf_s, cnd_0, cnd_1, cnd_2, cnd_3, cnd_4, cnd_5, fit_0, fit_1, fit_2, en_0, en_i, en_l, en_r, kb_t, kb_f, kb_n, sw_0, sw_s, ↓reduceIte, Nat.reduceEqDiff, Nat.left_eq_add, Nat.add_eq_left, Nat.add_left_cancel_iff, Nat.reduceAdd, Int.reduceLT, Int.reduceLE, Int.reduceAdd, Int.reduceSub, Int.reduceNeg, Int.reduceMul, Int.reduceToNat, Int.reduceEq, reduceCtorEq, true_and, and_true, true_or, or_true, and_false, false_and, or_false, false_or, not_true_eq_false, not_false_eq_true, Nat.le_refl, and_self, Sum.inl.injEq, Sum.inr.injEq, Option.some.injEq, hS_2, k_isref, pd_0, pd_s, List.cons_append, List.nil_append, Option.toList_none, Option.toList_some, tL_law_20, rL_law_20, hx', e1, e2]
  (repeat (first | refine ⟨⟨by omega, by omega⟩, ?_⟩ | refine And.intro (by omega) ?_))
  refine cVQ (d' := 22) [vI (xf (i + 1)), vI (xf (i + 2))] [] l_13_147 o72' pm (by decide) (fun r2 h2 q => ?_) (fun E h2 q => by obtain ⟨_, _, q, _⟩ := q; cases q) (by omega) (by omega)
  obtain ⟨b, s2, qe, q72, q0, qb, qI, qf0, qf6⟩ := q
  cases qe
  have h106' := qf6.trans p106
  have hx2 := qf0.trans hx'
  refine p_go [] 60 ?_
  simp only [st_0, st_1, st_2, st_3, st_4, st_5, st_6, st_7, st_8, st_9, st_10, st_11, st_12, st_13, st_14, st_15, st_16, st_17, st_18, st_19, st_20, st_21, st_22, st_23, st_24, st_25, st_26, st_27, st_28, st_29, st_30, st_31, st_32, st_33, st_34, st_34a, st_35, st_36, st_37, st_38, st_39, st_42, st_44, st_45, st_47, st_40, st_41, st_46, st_48, st_49, st_43, go_0, go_s, cut_0, cut_s, get_0, get_s, put_0, put_1, put_s, clr_0, clr_s, unl_i, unl_l, unl_r, unl_n, nth_0, nth_s, sf_0, sf_s, cnd_0, cnd_1, cnd_2, cnd_3, cnd_4, cnd_5, fit_0, fit_1, fit_2, en_0, en_i, en_l, en_r, kb_t, kb_f, kb_n, sw_0, sw_s, ↓reduceIte, Nat.reduceEqDiff, Nat.left_eq_add, Nat.add_eq_left, Nat.add_left_cancel_iff, Nat.reduceAdd, Int.reduceLT, Int.reduceLE, Int.reduceAdd, Int.reduceSub, Int.reduceNeg, Int.reduceMul, Int.reduceToNat, Int.reduceEq, reduceCtorEq, true_and, and_true, true_or, or_true, and_false, false_and, or_false, false_or, not_true_eq_false, not_false_eq_true, Nat.le_refl, and_self, Sum.inl.injEq, Sum.inr.injEq, Option.some.injEq, hS_2, k_isref, pd_0, pd_s, List.cons_append, List.nil_append, Option.toList_none, Option.toList_some, tL_law_20, rL_law_20]
  refine cV (d' := 0) [] [] l_13_74 q72 (e_mthrown q72) (by decide) (p_go [1277] 60 ?_) (by omega) (by omega)
  rw [q0]
  simp only [st_0, st_1, st_2, st_3, st_4, st_5, st_6, st_7, st_8, st_9, st_10, st_11, st_12, st_13, st_14, st_15, st_16, st_17, st_18, st_19, st_20, st_21, st_22, st_23, st_24, st_25, st_26, st_27, st_28, st_29, st_30, st_31, st_32, st_33, st_34, st_34a, st_35, st_36, st_37, st_38, st_39, st_42, st_44, st_45, st_47, st_40, st_41, st_46, st_48, st_49, st_43, go_0, go_s, cut_0, cut_s, get_0, get_s, put_0, put_1, put_s, clr_0, clr_s, unl_i, unl_l, unl_r, unl_n, nth_0, nth_s, sf_0, sf_s, cnd_0, cnd_1, cnd_2, cnd_3, cnd_4, cnd_5, fit_0, fit_1, fit_2, en_0, en_i, en_l, en_r, kb_t, kb_f, kb_n, sw_0, sw_s, ↓reduceIte, Nat.reduceEqDiff, Nat.left_eq_add, Nat.add_eq_left, Nat.add_left_cancel_iff, Nat.reduceAdd, Int.reduceLT, Int.reduceLE, Int.reduceAdd, Int.reduceSub, Int.reduceNeg, Int.reduceMul, Int.reduceToNat, Int.reduceEq, reduceCtorEq, true_and, and_true, true_or, or_true, and_false, false_and, or_false, false_or, not_true_eq_false, not_false_eq_true, Nat.le_refl, and_self, Sum.inl.injEq, Sum.inr.injEq, Option.some.injEq, hS_2, k_isref, pd_0, pd_s, List.cons_append, List.nil_append, Option.toList_none, Option.toList_some, tL_law_20, rL_law_20, h106']
  refine k_brI (fun c => ?_) (fun c => ?_)
  · have e9 : g' 0 = b := by rw [pa c, qb c]
    have e8 : k_lcmp (g' 0) b = 0 := by unfold k_lcmp; rw [e9, if_neg (by omega), if_pos rfl]
    refine And.intro (by decide) (k_brT e8 ?_)
    exact p_sub (by (repeat (first | exact le_nil | refine le_s ?_ | refine le_n ?_))) (kk h2 g' _ _ (by omega) (by omega) qI hx2 h106')
  · exact p_sub (by (repeat (first | exact le_nil | refine le_s ?_ | refine le_n ?_))) (kk h2 g' _ _ (by omega) (by omega) qI hx2 h106')
set_option maxRecDepth 100000 in
set_option maxHeartbeats 4000000 in
theorem w_law_21 {n i L k nn K N : Nat} {xf gg : F_} {h : PH} (hI : Inv n h) (hx : h.2 0 = some (.inl (4, L, xf))) (h106 : h.2 91 = some (.inl (3, 1, gg))) (hi : i + 6 ≤ L) (hL : L ≤ 3072) (hr : ∀ j, j < L → iR (xf j)) (hn : n < 99999) (hk : k + 3 ≤ K) (hnn : nn + 18 ≤ N)
    (kk : ∀ (h' : PH) (g' : F_) (k' n' : Nat), k' ≤ k + 3 → n' ≤ nn + 18 → Inv (n + 1) h' → h'.2 0 = some (.inl (4, L, xf)) → h'.2 91 = some (.inl (3, 1, g')) → k_Wp false 30 K N mL_law (fun o _ => o = rI 1) k' n' 1277 [some (vR 0), some (vR 1), some (vR 57), some (vR 91), some (vI (i : Int)), none, none] [] h') :
    k_Wp false 30 K N mL_law (fun o _ => o = rI 1) k nn 1183 [some (vR 0), some (vR 1), some (vR 57), some (vR 91), some (vI (i : Int)), none, none] [] h := by
  obtain ⟨s, C, e, sp, pc, sz, cl, cs, pk, pm, hB⟩ := hI
  have o1 := hB.2.1
  have o72 := hB.1
  refine p_go [] 60 ?_
  simp only [st_0, st_1, st_2, st_3, st_4, st_5, st_6, st_7, st_8, st_9, st_10, st_11, st_12, st_13, st_14, st_15, st_16, st_17, st_18, st_19, st_20, st_21, st_22, st_23, st_24, st_25, st_26, st_27, st_28, st_29, st_30, st_31, st_32, st_33, st_34, st_34a, st_35, st_36, st_37, st_38, st_39, st_42, st_44, st_45, st_47, st_40, st_41, st_46, st_48, st_49, st_43, go_0, go_s, cut_0, cut_s, get_0, get_s, put_0, put_1, put_s, clr_0, clr_s, unl_i, unl_l, unl_r, unl_n, nth_0, nth_s, sf_0, sf_s, cnd_0, cnd_1, cnd_2, cnd_3, cnd_4, cnd_5, fit_0, fit_1, fit_2, en_0, en_i, en_l, en_r, kb_t, kb_f, kb_n, sw_0, sw_s, ↓reduceIte, Nat.reduceEqDiff, Nat.left_eq_add, Nat.add_eq_left, Nat.add_left_cancel_iff, Nat.reduceAdd, Int.reduceLT, Int.reduceLE, Int.reduceAdd, Int.reduceSub, Int.reduceNeg, Int.reduceMul, Int.reduceToNat, Int.reduceEq, reduceCtorEq, true_and, and_true, true_or, or_true, and_false, false_and, or_false, false_or, not_true_eq_false, not_false_eq_true, Nat.le_refl, and_self, Sum.inl.injEq, Sum.inr.injEq, Option.some.injEq, hS_2, k_isref, pd_0, pd_s, List.cons_append, List.nil_append, Option.toList_none, Option.toList_some, tL_law_21, rL_law_21, hx]
  refine cVQ (d' := 22) [] [] l_13_148 o1 (v_best hB) (by decide) (fun r h' p => ?_) (fun E h' q => by obtain ⟨_, _, _, _, _, q, _⟩ := q; rcases q with ⟨_, q⟩ | ⟨_, q, _⟩ <;> cases q) (by omega) (by omega)
  obtain ⟨p0, p6, p7, code, a, q, pg⟩ := p
  obtain ⟨rfl, pe⟩ : code = 0 ∧ Sum.inl r = rI a := by
    rcases q with q | ⟨E, pE, pe⟩
    · exact q
    · cases pE
  cases pe
  have pm := pg h' (fun z _ => rfl)
  have p106 := p6.trans h106
  have hx' := p0.trans hx
  have o72' := p7.trans o72
  refine p_go [] 60 ?_
  simp only [st_0, st_1, st_2, st_3, st_4, st_5, st_6, st_7, st_8, st_9, st_10, st_11, st_12, st_13, st_14, st_15, st_16, st_17, st_18, st_19, st_20, st_21, st_22, st_23, st_24, st_25, st_26, st_27, st_28, st_29, st_30, st_31, st_32, st_33, st_34, st_34a, st_35, st_36, st_37, st_38, st_39, st_42, st_44, st_45, st_47, st_40, st_41, st_46, st_48, st_49, st_43, go_0, go_s, cut_0, cut_s, get_0, get_s, put_0, put_1, put_s, clr_0, clr_s, unl_i, unl_l, unl_r, unl_n, nth_0, nth_s, sf_0, sf_s, cnd_0, cnd_1, cnd_2, cnd_3, cnd_4, cnd_5, fit_0, fit_1, fit_2, en_0, en_i, en_l, en_r, kb_t, kb_f, kb_n, sw_0, sw_s, ↓reduceIte, Nat.reduceEqDiff, Nat.left_eq_add, Nat.add_eq_left, Nat.add_left_cancel_iff, Nat.reduceAdd, Int.reduceLT, Int.reduceLE, Int.reduceAdd, Int.reduceSub, Int.reduceNeg, Int.reduceMul, Int.reduceToNat, Int.reduceEq, reduceCtorEq, true_and, and_true, true_or, or_true, and_false, false_and, or_false, false_or, not_true_eq_false, not_false_eq_true, Nat.le_refl, and_self, Sum.inl.injEq, Sum.inr.injEq, Option.some.injEq, hS_2, k_isref, pd_0, pd_s, List.cons_append, List.nil_append, Option.toList_none, Option.toList_some, tL_law_21, rL_law_21, hx']
  refine cVQ (d' := 22) [] [vI a] l_13_151 o72' pm (by decide) (fun r2 h2 q => ?_) (fun E h2 q => by obtain ⟨_, _, q, _⟩ := q; cases q) (by omega) (by omega)
  obtain ⟨b, s2, qe, q72, q0, qb, qI, qf0, qf6⟩ := q
  cases qe
  have h106' := qf6.trans p106
  have hx2 := qf0.trans hx'
  have e9 := qb rfl
  refine p_go [1277] 60 ?_
  simp only [st_0, st_1, st_2, st_3, st_4, st_5, st_6, st_7, st_8, st_9, st_10, st_11, st_12, st_13, st_14, st_15, st_16, st_17, st_18, st_19, st_20, st_21, st_22, st_23, st_24, st_25, st_26, st_27, st_28, st_29, st_30, st_31, st_32, st_33, st_34, st_34a, st_35, st_36, st_37, st_38, st_39, st_42, st_44, st_45, st_47, st_40, st_41, st_46, st_48, st_49, st_43, go_0, go_s, cut_0, cut_s, get_0, get_s, put_0, put_1, put_s, clr_0, clr_s, unl_i, unl_l, unl_r, unl_n, nth_0, nth_s, sf_0, sf_s, cnd_0, cnd_1, cnd_2, cnd_3, cnd_4, cnd_5, fit_0, fit_1, fit_2, en_0, en_i, en_l, en_r, kb_t, kb_f, kb_n, sw_0, sw_s, ↓reduceIte, Nat.reduceEqDiff, Nat.left_eq_add, Nat.add_eq_left, Nat.add_left_cancel_iff, Nat.reduceAdd, Int.reduceLT, Int.reduceLE, Int.reduceAdd, Int.reduceSub, Int.reduceNeg, Int.reduceMul, Int.reduceToNat, Int.reduceEq, reduceCtorEq, true_and, and_true, true_or, or_true, and_false, false_and, or_false, false_or, not_true_eq_false, not_false_eq_true, Nat.le_refl, and_self, Sum.inl.injEq, Sum.inr.injEq, Option.some.injEq, hS_2, k_isref, pd_0, pd_s, List.cons_append, List.nil_append, Option.toList_none, Option.toList_some, tL_law_21, rL_law_21]
  refine k_brT (by omega) ?_
  exact kk h2 gg _ _ (by omega) (by omega) qI hx2 h106'
set_option maxRecDepth 100000 in
set_option maxHeartbeats 4000000 in
theorem w_law_22 {n i L k nn K N : Nat} {xf gg : F_} {h : PH} (hI : Inv n h) (hx : h.2 0 = some (.inl (4, L, xf))) (h106 : h.2 91 = some (.inl (3, 1, gg))) (hi : i + 6 ≤ L) (hL : L ≤ 3072) (hr : ∀ j, j < L → iR (xf j)) (hn : n < 99999) (hk : k + 3 ≤ K) (hnn : nn + 18 ≤ N)
    (kk : ∀ (h' : PH) (g' : F_) (k' n' : Nat), k' ≤ k + 3 → n' ≤ nn + 18 → Inv (n + 1) h' → h'.2 0 = some (.inl (4, L, xf)) → h'.2 91 = some (.inl (3, 1, g')) → k_Wp false 30 K N mL_law (fun o _ => o = rI 1) k' n' 1277 [some (vR 0), some (vR 1), some (vR 57), some (vR 91), some (vI (i : Int)), none, none] [] h') :
    k_Wp false 30 K N mL_law (fun o _ => o = rI 1) k nn 1196 [some (vR 0), some (vR 1), some (vR 57), some (vR 91), some (vI (i : Int)), none, none] [] h := by
  obtain ⟨s, C, e, sp, pc, sz, cl, cs, pk, pm, hB⟩ := hI
  have o1 := hB.2.1
  have o72 := hB.1
  have e1 : ((i : Int) + 1).toNat = i + 1 := by omega
  refine p_go [] 60 ?_
  simp only [st_0, st_1, st_2, st_3, st_4, st_5, st_6, st_7, st_8, st_9, st_10, st_11, st_12, st_13, st_14, st_15, st_16, st_17, st_18, st_19, st_20, st_21, st_22, st_23, st_24, st_25, st_26, st_27, st_28, st_29, st_30, st_31, st_32, st_33, st_34, st_34a, st_35, st_36, st_37, st_38, st_39, st_42, st_44, st_45, st_47, st_40, st_41, st_46, st_48, st_49, st_43, go_0, go_s, cut_0, cut_s, get_0, get_s, put_0, put_1, put_s, clr_0, clr_s, unl_i, unl_l, unl_r, unl_n, nth_0, nth_s, sf_0, sf_s, cnd_0, cnd_1, cnd_2, cnd_3, cnd_4, cnd_5, fit_0, fit_1, fit_2, en_0, en_i, en_l, en_r, kb_t, kb_f, kb_n, sw_0, sw_s, ↓reduceIte, Nat.reduceEqDiff, Nat.left_eq_add, Nat.add_eq_left, Nat.add_left_cancel_iff, Nat.reduceAdd, Int.reduceLT, Int.reduceLE, Int.reduceAdd, Int.reduceSub, Int.reduceNeg, Int.reduceMul, Int.reduceToNat, Int.reduceEq, reduceCtorEq, true_and, and_true, true_or, or_true, and_false, false_and, or_false, false_or, not_true_eq_false, not_false_eq_true, Nat.le_refl, and_self, Sum.inl.injEq, Sum.inr.injEq, Option.some.injEq, hS_2, k_isref, pd_0, pd_s, List.cons_append, List.nil_append, Option.toList_none, Option.toList_some, tL_law_22, rL_law_22, hx, e1]
  (repeat (first | refine ⟨⟨by omega, by omega⟩, ?_⟩ | refine And.intro (by omega) ?_))
  refine cSW (d' := 23) (K' := 1) (N' := 6) [vR 1, vI (xf (i + 1)), vR 91] [] l_13_152 (e_Lchosen (v_chosen hB (xf (i + 1))) o1 h106) (fun E h' q => by obtain ⟨_, _, q, _⟩ := q; cases q) (by decide) (by omega) (by omega) (fun r h' p => ?_)
  obtain ⟨code, a, pe, p0, p7, ⟨g', p106, pa⟩, pm⟩ := p
  cases pe
  have hx' := p0.trans hx
  have o72' := p7.trans o72
  refine p_go [] 60 ?_
  simp only [st_0, st_1, st_2, st_3, st_4, st_5, st_6, st_7, st_8, st_9, st_10, st_11, st_12, st_13, st_14, st_15, st_16, st_17, st_18, st_19, st_20, st_21, st_22, st_23, st_24, st_25, st_26, st_27, st_28, st_29, st_30, st_31, st_32, st_33, st_34, st_34a, st_35, st_36, st_37, st_38, st_39, st_42, st_44, st_45, st_47, st_40, st_41, st_46, st_48, st_49, st_43, go_0, go_s, cut_0, cut_s, get_0, get_s, put_0, put_1, put_s, clr_0, clr_s, unl_i, unl_l, unl_r, unl_n, nth_0, nth_s, sf_0, sf_s, cnd_0, cnd_1, cnd_2, cnd_3, cnd_4, cnd_5, fit_0, fit_1, fit_2, en_0, en_i, en_l, en_r, kb_t, kb_f, kb_n, sw_0, sw_s, ↓reduceIte, Nat.reduceEqDiff, Nat.left_eq_add, Nat.add_eq_left, Nat.add_left_cancel_iff, Nat.reduceAdd, Int.reduceLT, Int.reduceLE, Int.reduceAdd, Int.reduceSub, Int.reduceNeg, Int.reduceMul, Int.reduceToNat, Int.reduceEq, reduceCtorEq, true_and, and_true, true_or, or_true, and_false, false_and, or_false, false_or, not_true_eq_false, not_false_eq_true, Nat.le_refl, and_self, Sum.inl.injEq, Sum.inr.injEq, Option.some.injEq, hS_2, k_isref, pd_0, pd_s, List.cons_append, List.nil_append, Option.toList_none, Option.toList_some, tL_law_22, rL_law_22, hx', e1]
  (repeat (first | refine ⟨⟨by omega, by omega⟩, ?_⟩ | refine And.intro (by omega) ?_))
  refine cVQ (d' := 22) [vI (xf (i + 1))] [] l_13_154 o72' pm (by decide) (fun r2 h2 q => ?_) (fun E h2 q => by obtain ⟨_, _, q, _⟩ := q; cases q) (by omega) (by omega)
  obtain ⟨b, s2, qe, q72, q0, qb, qI, qf0, qf6⟩ := q
  cases qe
  have h106' := qf6.trans p106
  have hx2 := qf0.trans hx'
  refine p_go [] 60 ?_
  simp only [st_0, st_1, st_2, st_3, st_4, st_5, st_6, st_7, st_8, st_9, st_10, st_11, st_12, st_13, st_14, st_15, st_16, st_17, st_18, st_19, st_20, st_21, st_22, st_23, st_24, st_25, st_26, st_27, st_28, st_29, st_30, st_31, st_32, st_33, st_34, st_34a, st_35, st_36, st_37, st_38, st_39, st_42, st_44, st_45, st_47, st_40, st_41, st_46, st_48, st_49, st_43, go_0, go_s, cut_0, cut_s, get_0, get_s, put_0, put_1, put_s, clr_0, clr_s, unl_i, unl_l, unl_r, unl_n, nth_0, nth_s, sf_0, sf_s, cnd_0, cnd_1, cnd_2, cnd_3, cnd_4, cnd_5, fit_0, fit_1, fit_2, en_0, en_i, en_l, en_r, kb_t, kb_f, kb_n, sw_0, sw_s, ↓reduceIte, Nat.reduceEqDiff, Nat.left_eq_add, Nat.add_eq_left, Nat.add_left_cancel_iff, Nat.reduceAdd, Int.reduceLT, Int.reduceLE, Int.reduceAdd, Int.reduceSub, Int.reduceNeg, Int.reduceMul, Int.reduceToNat, Int.reduceEq, reduceCtorEq, true_and, and_true, true_or, or_true, and_false, false_and, or_false, false_or, not_true_eq_false, not_false_eq_true, Nat.le_refl, and_self, Sum.inl.injEq, Sum.inr.injEq, Option.some.injEq, hS_2, k_isref, pd_0, pd_s, List.cons_append, List.nil_append, Option.toList_none, Option.toList_some, tL_law_22, rL_law_22]
  refine cV (d' := 0) [] [] l_13_74 q72 (e_mthrown q72) (by decide) (p_go [1277] 60 ?_) (by omega) (by omega)
  rw [q0]
  simp only [st_0, st_1, st_2, st_3, st_4, st_5, st_6, st_7, st_8, st_9, st_10, st_11, st_12, st_13, st_14, st_15, st_16, st_17, st_18, st_19, st_20, st_21, st_22, st_23, st_24, st_25, st_26, st_27, st_28, st_29, st_30, st_31, st_32, st_33, st_34, st_34a, st_35, st_36, st_37, st_38, st_39, st_42, st_44, st_45, st_47, st_40, st_41, st_46, st_48, st_49, st_43, go_0, go_s, cut_0, cut_s, get_0, get_s, put_0, put_1, put_s, clr_0, clr_s, unl_i, unl_l, unl_r, unl_n, nth_0, nth_s, sf_0, sf_s, cnd_0, cnd_1, cnd_2, cnd_3, cnd_4, cnd_5, fit_0, fit_1, fit_2, en_0, en_i, en_l, en_r, kb_t, kb_f, kb_n, sw_0, sw_s, ↓reduceIte, Nat.reduceEqDiff, Nat.left_eq_add, Nat.add_eq_left, Nat.add_left_cancel_iff, Nat.reduceAdd, Int.reduceLT, Int.reduceLE, Int.reduceAdd, Int.reduceSub, Int.reduceNeg, Int.reduceMul, Int.reduceToNat, Int.reduceEq, reduceCtorEq, true_and, and_true, true_or, or_true, and_false, false_and, or_false, false_or, not_true_eq_false, not_false_eq_true, Nat.le_refl, and_self, Sum.inl.injEq, Sum.inr.injEq, Option.some.injEq, hS_2, k_isref, pd_0, pd_s, List.cons_append, List.nil_append, Option.toList_none, Option.toList_some, tL_law_22, rL_law_22, h106']
  refine k_brI (fun c => ?_) (fun c => ?_)
  · have e9 : g' 0 = b := by rw [pa c, qb c]
    have e8 : k_lcmp (g' 0) b = 0 := by unfold k_lcmp; rw [e9, if_neg (by omega), if_pos rfl]
    refine And.intro (by decide) (k_brT e8 ?_)
    exact p_sub (by (repeat (first | exact le_nil | refine le_s ?_ | refine le_n ?_))) (kk h2 g' _ _ (by omega) (by omega) qI hx2 h106')
  · exact p_sub (by (repeat (first | exact le_nil | refine le_s ?_ | refine le_n ?_))) (kk h2 g' _ _ (by omega) (by omega) qI hx2 h106')
set_option maxRecDepth 100000 in
set_option maxHeartbeats 4000000 in
theorem w_law_23 {n i L k nn K N : Nat} {xf gg : F_} {h : PH} (hI : Inv n h) (hx : h.2 0 = some (.inl (4, L, xf))) (h106 : h.2 91 = some (.inl (3, 1, gg))) (hi : i + 6 ≤ L) (hL : L ≤ 3072) (hr : ∀ j, j < L → iR (xf j)) (hn : n < 99999) (hk : k + 3 ≤ K) (hnn : nn + 18 ≤ N)
    (kk : ∀ (h' : PH) (g' : F_) (k' n' : Nat), k' ≤ k + 3 → n' ≤ nn + 18 → Inv (n + 1) h' → h'.2 0 = some (.inl (4, L, xf)) → h'.2 91 = some (.inl (3, 1, g')) → k_Wp false 30 K N mL_law (fun o _ => o = rI 1) k' n' 1277 [some (vR 0), some (vR 1), some (vR 57), some (vR 91), some (vI (i : Int)), none, none] [] h') :
    k_Wp false 30 K N mL_law (fun o _ => o = rI 1) k nn 1252 [some (vR 0), some (vR 1), some (vR 57), some (vR 91), some (vI (i : Int)), none, none] [] h := by
  obtain ⟨s, C, e, sp, pc, sz, cl, cs, pk, pm, hB⟩ := hI
  have o1 := hB.2.1
  have o72 := hB.1
  have e1 : ((i : Int) + 1).toNat = i + 1 := by omega
  refine p_go [] 60 ?_
  simp only [st_0, st_1, st_2, st_3, st_4, st_5, st_6, st_7, st_8, st_9, st_10, st_11, st_12, st_13, st_14, st_15, st_16, st_17, st_18, st_19, st_20, st_21, st_22, st_23, st_24, st_25, st_26, st_27, st_28, st_29, st_30, st_31, st_32, st_33, st_34, st_34a, st_35, st_36, st_37, st_38, st_39, st_42, st_44, st_45, st_47, st_40, st_41, st_46, st_48, st_49, st_43, go_0, go_s, cut_0, cut_s, get_0, get_s, put_0, put_1, put_s, clr_0, clr_s, unl_i, unl_l, unl_r, unl_n, nth_0, nth_s, sf_0, sf_s, cnd_0, cnd_1, cnd_2, cnd_3, cnd_4, cnd_5, fit_0, fit_1, fit_2, en_0, en_i, en_l, en_r, kb_t, kb_f, kb_n, sw_0, sw_s, ↓reduceIte, Nat.reduceEqDiff, Nat.left_eq_add, Nat.add_eq_left, Nat.add_left_cancel_iff, Nat.reduceAdd, Int.reduceLT, Int.reduceLE, Int.reduceAdd, Int.reduceSub, Int.reduceNeg, Int.reduceMul, Int.reduceToNat, Int.reduceEq, reduceCtorEq, true_and, and_true, true_or, or_true, and_false, false_and, or_false, false_or, not_true_eq_false, not_false_eq_true, Nat.le_refl, and_self, Sum.inl.injEq, Sum.inr.injEq, Option.some.injEq, hS_2, k_isref, pd_0, pd_s, List.cons_append, List.nil_append, Option.toList_none, Option.toList_some, tL_law_23, rL_law_23, hx, e1]
  (repeat (first | refine ⟨⟨by omega, by omega⟩, ?_⟩ | refine And.intro (by omega) ?_))
  refine cVQ (d' := 22) [vI (xf (i + 1))] [] l_13_155 o1 (v_count hB (xf (i + 1))) (by decide) (fun r h' p => ?_) (fun E h' q => by obtain ⟨_, _, _, _, _, q, _⟩ := q; rcases q with ⟨_, q⟩ | ⟨_, q, _⟩ <;> cases q) (by omega) (by omega)
  obtain ⟨p0, p6, p7, code, a, q, pg⟩ := p
  obtain ⟨rfl, pe⟩ : code = 0 ∧ Sum.inl r = rI a := by
    rcases q with q | ⟨E, pE, pe⟩
    · exact q
    · cases pE
  cases pe
  have pm := pg h' (fun z _ => rfl)
  have p106 := p6.trans h106
  have hx' := p0.trans hx
  have o72' := p7.trans o72
  refine p_go [] 60 ?_
  simp only [st_0, st_1, st_2, st_3, st_4, st_5, st_6, st_7, st_8, st_9, st_10, st_11, st_12, st_13, st_14, st_15, st_16, st_17, st_18, st_19, st_20, st_21, st_22, st_23, st_24, st_25, st_26, st_27, st_28, st_29, st_30, st_31, st_32, st_33, st_34, st_34a, st_35, st_36, st_37, st_38, st_39, st_42, st_44, st_45, st_47, st_40, st_41, st_46, st_48, st_49, st_43, go_0, go_s, cut_0, cut_s, get_0, get_s, put_0, put_1, put_s, clr_0, clr_s, unl_i, unl_l, unl_r, unl_n, nth_0, nth_s, sf_0, sf_s, cnd_0, cnd_1, cnd_2, cnd_3, cnd_4, cnd_5, fit_0, fit_1, fit_2, en_0, en_i, en_l, en_r, kb_t, kb_f, kb_n, sw_0, sw_s, ↓reduceIte, Nat.reduceEqDiff, Nat.left_eq_add, Nat.add_eq_left, Nat.add_left_cancel_iff, Nat.reduceAdd, Int.reduceLT, Int.reduceLE, Int.reduceAdd, Int.reduceSub, Int.reduceNeg, Int.reduceMul, Int.reduceToNat, Int.reduceEq, reduceCtorEq, true_and, and_true, true_or, or_true, and_false, false_and, or_false, false_or, not_true_eq_false, not_false_eq_true, Nat.le_refl, and_self, Sum.inl.injEq, Sum.inr.injEq, Option.some.injEq, hS_2, k_isref, pd_0, pd_s, List.cons_append, List.nil_append, Option.toList_none, Option.toList_some, tL_law_23, rL_law_23, hx', e1]
  (repeat (first | refine ⟨⟨by omega, by omega⟩, ?_⟩ | refine And.intro (by omega) ?_))
  refine cVQ (d' := 22) [vI (xf (i + 1))] [vI a] l_13_158 o72' pm (by decide) (fun r2 h2 q => ?_) (fun E h2 q => by obtain ⟨_, _, q, _⟩ := q; cases q) (by omega) (by omega)
  obtain ⟨b, s2, qe, q72, q0, qb, qI, qf0, qf6⟩ := q
  cases qe
  have h106' := qf6.trans p106
  have hx2 := qf0.trans hx'
  have e9 := qb rfl
  refine p_go [1277] 60 ?_
  simp only [st_0, st_1, st_2, st_3, st_4, st_5, st_6, st_7, st_8, st_9, st_10, st_11, st_12, st_13, st_14, st_15, st_16, st_17, st_18, st_19, st_20, st_21, st_22, st_23, st_24, st_25, st_26, st_27, st_28, st_29, st_30, st_31, st_32, st_33, st_34, st_34a, st_35, st_36, st_37, st_38, st_39, st_42, st_44, st_45, st_47, st_40, st_41, st_46, st_48, st_49, st_43, go_0, go_s, cut_0, cut_s, get_0, get_s, put_0, put_1, put_s, clr_0, clr_s, unl_i, unl_l, unl_r, unl_n, nth_0, nth_s, sf_0, sf_s, cnd_0, cnd_1, cnd_2, cnd_3, cnd_4, cnd_5, fit_0, fit_1, fit_2, en_0, en_i, en_l, en_r, kb_t, kb_f, kb_n, sw_0, sw_s, ↓reduceIte, Nat.reduceEqDiff, Nat.left_eq_add, Nat.add_eq_left, Nat.add_left_cancel_iff, Nat.reduceAdd, Int.reduceLT, Int.reduceLE, Int.reduceAdd, Int.reduceSub, Int.reduceNeg, Int.reduceMul, Int.reduceToNat, Int.reduceEq, reduceCtorEq, true_and, and_true, true_or, or_true, and_false, false_and, or_false, false_or, not_true_eq_false, not_false_eq_true, Nat.le_refl, and_self, Sum.inl.injEq, Sum.inr.injEq, Option.some.injEq, hS_2, k_isref, pd_0, pd_s, List.cons_append, List.nil_append, Option.toList_none, Option.toList_some, tL_law_23, rL_law_23]
  refine k_brT (by omega) ?_
  exact kk h2 gg _ _ (by omega) (by omega) qI hx2 h106'
