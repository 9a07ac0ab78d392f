/-! the reference: lists, its loops -/
section Mlist82
variable {x : Bool} {d : Nat} {h h0 : PH} {t : F_} {P : PO → PH → Prop} {pc : Nat} {op oq pt ob : F_}
/-- the heap while commands are listed -/
abbrev lsH (h : PH) (np pi : F_) : PH := hS (hS h 83 (cI 960 np)) 84 (cI 8 pi)
theorem lsH_n {np pi : F_} {z : Nat} (h1 : z ≠ 83) (h2 : z ≠ 84) : (lsH h np pi).2 z = h.2 z := (hS_n h2).trans (hS_n h1)
theorem lsH_98 {np pi : F_} : (lsH h np pi).2 83 = some (cI 960 np) := (hS_n (by decide)).trans (hS_s _ _ _)
theorem lsH_99 {np pi : F_} : (lsH h np pi).2 84 = some (cI 8 pi) := hS_s _ _ _
theorem lsH_p {np pi pi' : F_} : hS (lsH h np pi) 84 (cI 8 pi') = lsH h np pi' := hS_hS
theorem lsH_c {np pi np' : F_} : hS (lsH h np pi) 83 (cI 960 np') = lsH h np' pi := by
  unfold lsH
  rw [hS_c (a := 84) (b := 83) (by decide), hS_hS]
set_option maxRecDepth 100000 in
set_option maxHeartbeats 4000000 in
theorem w_lsI (hM : MPt h t pc op oq pt ob) (hpc : pc ≤ 8) (hop : ∀ k : Nat, k < pc → -1 ≤ op k ∧ op k < k) (hd : 1 ≤ d) {np G : F_}
    (kk : k_Wp x d 0 0 mX12_lists P 0 0 48 [some (vR 57), some (vI 0), none, none, none] [] (lsH h np G)) : ∀ (j p : Nat) (pi : F_), p + j = pc → stl pc op oq j p pi = G →
    k_Wp x d 0 0 mX12_lists P 0 0 4 [some (vR 57), some (vI 0), some (vI p), none, none] [] (lsH h np pi) := by
  intro j
  induction j with
  | zero =>
    intro p pi hp he
    have he : pi = G := he
    subst he
    have k1 := (lsH_n (h := h) (np := np) (pi := pi) (z := 57) (by decide) (by decide)).trans hM.1
    have e1 : t 31 ≤ (p : Int) := by have := hM.2.1; omega
    generalize lsH h np pi = h3 at k1 kk ⊢
    refine p_go [48] 40 ?_
    simp only [st_0, st_1, st_2, st_3, st_4, st_5, st_6, st_7, st_8, st_9, st_10, st_11, st_12, st_13, st_14, st_15, st_16, st_17, st_18, st_19, st_20, st_21, st_22, st_23, st_24, st_25, st_26, st_27, st_28, st_29, st_30, st_31, st_32, st_33, st_34, st_34a, st_35, st_36, st_37, st_38, st_39, st_42, st_44, st_45, st_47, st_40, st_41, st_46, st_48, st_49, st_43, go_0, go_s, cut_0, cut_s, get_0, get_s, put_0, put_1, put_s, clr_0, clr_s, unl_i, unl_l, unl_r, unl_n, nth_0, nth_s, sf_0, sf_s, cnd_0, cnd_1, cnd_2, cnd_3, cnd_4, cnd_5, fit_0, fit_1, fit_2, en_0, en_i, en_l, en_r, kb_t, kb_f, kb_n, sw_0, sw_s, ↓reduceIte, Nat.reduceEqDiff, Nat.left_eq_add, Nat.add_eq_left, Nat.add_left_cancel_iff, Nat.reduceAdd, Int.reduceLT, Int.reduceLE, Int.reduceAdd, Int.reduceSub, Int.reduceNeg, Int.reduceMul, Int.reduceToNat, Int.reduceEq, reduceCtorEq, true_and, and_true, true_or, or_true, and_false, false_and, or_false, false_or, not_true_eq_false, not_false_eq_true, Nat.le_refl, and_self, Sum.inl.injEq, Sum.inr.injEq, Option.some.injEq, hS_2, k_isref, pd_0, pd_s, List.cons_append, List.nil_append, Option.toList_none, Option.toList_some, tX12_lists, rX12_lists, k1, e1]
    exact p_sub (by (repeat (first | exact le_nil | refine le_s ?_ | refine le_n ?_))) kk
  | succ j ih =>
    intro p pi hp he
    unfold stl at he
    obtain ⟨pp, pa, pl, pm, a1, a2, a3, a4, a5⟩ := hM.2.2
    obtain ⟨b1, b2, b3, b4⟩ := a5 p (by omega)
    have k1 := (lsH_n (h := h) (np := np) (pi := pi) (z := 57) (by decide) (by decide)).trans hM.1
    have k91 := (lsH_n (h := h) (np := np) (pi := pi) (z := 76) (by decide) (by decide)).trans a1
    have k92 := (lsH_n (h := h) (np := np) (pi := pi) (z := 77) (by decide) (by decide)).trans a2
    have k99 := lsH_99 (h := h) (np := np) (pi := pi)
    have e1 : ¬ t 31 ≤ (p : Int) := by have := hM.2.1; omega
    have hev := e_isCome (x := x) (d := 0) (z := op p) (a := oq p) k1 k99 hpc (by have := hop p (by omega); omega)
    have hnx := ih (p + 1) _ (by omega) he
    rw [← lsH_p (pi := pi)] at hnx
    generalize lsH h np pi = h3 at k1 k91 k92 k99 hev hnx ⊢
    refine p_go [] 40 ?_
    simp only [st_0, st_1, st_2, st_3, st_4, st_5, st_6, st_7, st_8, st_9, st_10, st_11, st_12, st_13, st_14, st_15, st_16, st_17, st_18, st_19, st_20, st_21, st_22, st_23, st_24, st_25, st_26, st_27, st_28, st_29, st_30, st_31, st_32, st_33, st_34, st_34a, st_35, st_36, st_37, st_38, st_39, st_42, st_44, st_45, st_47, st_40, st_41, st_46, st_48, st_49, st_43, go_0, go_s, cut_0, cut_s, get_0, get_s, put_0, put_1, put_s, clr_0, clr_s, unl_i, unl_l, unl_r, unl_n, nth_0, nth_s, sf_0, sf_s, cnd_0, cnd_1, cnd_2, cnd_3, cnd_4, cnd_5, fit_0, fit_1, fit_2, en_0, en_i, en_l, en_r, kb_t, kb_f, kb_n, sw_0, sw_s, ↓reduceIte, Nat.reduceEqDiff, Nat.left_eq_add, Nat.add_eq_left, Nat.add_left_cancel_iff, Nat.reduceAdd, Int.reduceLT, Int.reduceLE, Int.reduceAdd, Int.reduceSub, Int.reduceNeg, Int.reduceMul, Int.reduceToNat, Int.reduceEq, reduceCtorEq, true_and, and_true, true_or, or_true, and_false, false_and, or_false, false_or, not_true_eq_false, not_false_eq_true, Nat.le_refl, and_self, Sum.inl.injEq, Sum.inr.injEq, Option.some.injEq, hS_2, k_isref, pd_0, pd_s, List.cons_append, List.nil_append, Option.toList_none, Option.toList_some, tX12_lists, rX12_lists, k1, k91, k92, b1, b2, e1, Int.toNat_natCast]
    refine ⟨⟨by omega, by omega⟩, ⟨by omega, by omega⟩, ?_⟩
    refine cV (d' := 0) [vI (op p), vI (oq p)] [vI p, vR 84] l_12_204 k1 hev (by omega) (p_go [4] 40 ?_)
    by_cases hc : cm pc pi (op p) (oq p) = 0
    · rw [if_pos hc] at hnx
      rw [hc]
      simp only [st_0, st_1, st_2, st_3, st_4, st_5, st_6, st_7, st_8, st_9, st_10, st_11, st_12, st_13, st_14, st_15, st_16, st_17, st_18, st_19, st_20, st_21, st_22, st_23, st_24, st_25, st_26, st_27, st_28, st_29, st_30, st_31, st_32, st_33, st_34, st_34a, st_35, st_36, st_37, st_38, st_39, st_42, st_44, st_45, st_47, st_40, st_41, st_46, st_48, st_49, st_43, go_0, go_s, cut_0, cut_s, get_0, get_s, put_0, put_1, put_s, clr_0, clr_s, unl_i, unl_l, unl_r, unl_n, nth_0, nth_s, sf_0, sf_s, cnd_0, cnd_1, cnd_2, cnd_3, cnd_4, cnd_5, fit_0, fit_1, fit_2, en_0, en_i, en_l, en_r, kb_t, kb_f, kb_n, sw_0, sw_s, ↓reduceIte, Nat.reduceEqDiff, Nat.left_eq_add, Nat.add_eq_left, Nat.add_left_cancel_iff, Nat.reduceAdd, Int.reduceLT, Int.reduceLE, Int.reduceAdd, Int.reduceSub, Int.reduceNeg, Int.reduceMul, Int.reduceToNat, Int.reduceEq, reduceCtorEq, true_and, and_true, true_or, or_true, and_false, false_and, or_false, false_or, not_true_eq_false, not_false_eq_true, Nat.le_refl, and_self, Sum.inl.injEq, Sum.inr.injEq, Option.some.injEq, hS_2, k_isref, pd_0, pd_s, List.cons_append, List.nil_append, Option.toList_none, Option.toList_some, tX12_lists, rX12_lists, k99, nat1, Int.toNat_natCast]
      (repeat (first | exact hnx | refine ⟨⟨by omega, by omega⟩, ?_⟩ | refine And.intro (by omega) ?_))
    · rw [if_neg hc] at hnx
      have hc1 : cm pc pi (op p) (oq p) = 1 := by
        unfold cm at hc ⊢
        split <;> rename_i q
        · rw [if_pos q] at hc; exact absurd rfl hc
        · rfl
      rw [hc1]
      simp only [st_0, st_1, st_2, st_3, st_4, st_5, st_6, st_7, st_8, st_9, st_10, st_11, st_12, st_13, st_14, st_15, st_16, st_17, st_18, st_19, st_20, st_21, st_22, st_23, st_24, st_25, st_26, st_27, st_28, st_29, st_30, st_31, st_32, st_33, st_34, st_34a, st_35, st_36, st_37, st_38, st_39, st_42, st_44, st_45, st_47, st_40, st_41, st_46, st_48, st_49, st_43, go_0, go_s, cut_0, cut_s, get_0, get_s, put_0, put_1, put_s, clr_0, clr_s, unl_i, unl_l, unl_r, unl_n, nth_0, nth_s, sf_0, sf_s, cnd_0, cnd_1, cnd_2, cnd_3, cnd_4, cnd_5, fit_0, fit_1, fit_2, en_0, en_i, en_l, en_r, kb_t, kb_f, kb_n, sw_0, sw_s, ↓reduceIte, Nat.reduceEqDiff, Nat.left_eq_add, Nat.add_eq_left, Nat.add_left_cancel_iff, Nat.reduceAdd, Int.reduceLT, Int.reduceLE, Int.reduceAdd, Int.reduceSub, Int.reduceNeg, Int.reduceMul, Int.reduceToNat, Int.reduceEq, reduceCtorEq, true_and, and_true, true_or, or_true, and_false, false_and, or_false, false_or, not_true_eq_false, not_false_eq_true, Nat.le_refl, and_self, Sum.inl.injEq, Sum.inr.injEq, Option.some.injEq, hS_2, k_isref, pd_0, pd_s, List.cons_append, List.nil_append, Option.toList_none, Option.toList_some, tX12_lists, rX12_lists, k99, nat1, Int.toNat_natCast]
      (repeat (first | exact hnx | refine ⟨⟨by omega, by omega⟩, ?_⟩ | refine And.intro (by omega) ?_))
set_option maxRecDepth 100000 in
set_option maxHeartbeats 4000000 in
theorem w_lsR (hM : MPt h t pc op oq pt ob) (hpc : pc ≤ 8) {n : Nat} (hn : n < 120) {np pi : F_} {mo_ : Int}
    (kk : k_Wp x d 0 0 mX12_lists P 0 0 96 [some (vR 57), some (vI n), some (vI mo_), none, none] [] (lsH h (va_cpy pi np 0 (8 * n) pc) pi)) : ∀ (j p : Nat), p + j = pc →
    k_Wp x d 0 0 mX12_lists P 0 0 65 [some (vR 57), some (vI n), some (vI mo_), some (vI p), none] [] (lsH h (va_cpy pi np 0 (8 * n) p) pi) := by
  intro j
  induction j with
  | zero =>
    intro p hp
    rw [show pc = p by omega] at kk
    have k1 := (lsH_n (h := h) (np := va_cpy pi np 0 (8 * n) p) (pi := pi) (z := 57) (by decide) (by decide)).trans hM.1
    have e1 : t 31 ≤ (p : Int) := by have := hM.2.1; omega
    generalize lsH h (va_cpy pi np 0 (8 * n) p) pi = h3 at k1 kk ⊢
    refine p_go [96] 40 ?_
    simp only [st_0, st_1, st_2, st_3, st_4, st_5, st_6, st_7, st_8, st_9, st_10, st_11, st_12, st_13, st_14, st_15, st_16, st_17, st_18, st_19, st_20, st_21, st_22, st_23, st_24, st_25, st_26, st_27, st_28, st_29, st_30, st_31, st_32, st_33, st_34, st_34a, st_35, st_36, st_37, st_38, st_39, st_42, st_44, st_45, st_47, st_40, st_41, st_46, st_48, st_49, st_43, go_0, go_s, cut_0, cut_s, get_0, get_s, put_0, put_1, put_s, clr_0, clr_s, unl_i, unl_l, unl_r, unl_n, nth_0, nth_s, sf_0, sf_s, cnd_0, cnd_1, cnd_2, cnd_3, cnd_4, cnd_5, fit_0, fit_1, fit_2, en_0, en_i, en_l, en_r, kb_t, kb_f, kb_n, sw_0, sw_s, ↓reduceIte, Nat.reduceEqDiff, Nat.left_eq_add, Nat.add_eq_left, Nat.add_left_cancel_iff, Nat.reduceAdd, Int.reduceLT, Int.reduceLE, Int.reduceAdd, Int.reduceSub, Int.reduceNeg, Int.reduceMul, Int.reduceToNat, Int.reduceEq, reduceCtorEq, true_and, and_true, true_or, or_true, and_false, false_and, or_false, false_or, not_true_eq_false, not_false_eq_true, Nat.le_refl, and_self, Sum.inl.injEq, Sum.inr.injEq, Option.some.injEq, hS_2, k_isref, pd_0, pd_s, List.cons_append, List.nil_append, Option.toList_none, Option.toList_some, tX12_lists, rX12_lists, k1, e1]
    exact p_sub (by (repeat (first | exact le_nil | refine le_s ?_ | refine le_n ?_))) kk
  | succ j ih =>
    intro p hp
    have hnx := ih (p + 1) (by omega)
    rw [← cpy_s, Nat.zero_add, ← lsH_c (np := va_cpy pi np 0 (8 * n) p)] at hnx
    have k1 := (lsH_n (h := h) (np := va_cpy pi np 0 (8 * n) p) (pi := pi) (z := 57) (by decide) (by decide)).trans hM.1
    have k98 := lsH_98 (h := h) (np := va_cpy pi np 0 (8 * n) p) (pi := pi)
    have k99 := lsH_99 (h := h) (np := va_cpy pi np 0 (8 * n) p) (pi := pi)
    have e1 : ¬ t 31 ≤ (p : Int) := by have := hM.2.1; omega
    have e2 : ((8 : Int) * n + p).toNat = 8 * n + p := by omega
    generalize lsH h (va_cpy pi np 0 (8 * n) p) pi = h3 at k1 k98 k99 hnx ⊢
    refine p_go [65] 40 ?_
    simp only [st_0, st_1, st_2, st_3, st_4, st_5, st_6, st_7, st_8, st_9, st_10, st_11, st_12, st_13, st_14, st_15, st_16, st_17, st_18, st_19, st_20, st_21, st_22, st_23, st_24, st_25, st_26, st_27, st_28, st_29, st_30, st_31, st_32, st_33, st_34, st_34a, st_35, st_36, st_37, st_38, st_39, st_42, st_44, st_45, st_47, st_40, st_41, st_46, st_48, st_49, st_43, go_0, go_s, cut_0, cut_s, get_0, get_s, put_0, put_1, put_s, clr_0, clr_s, unl_i, unl_l, unl_r, unl_n, nth_0, nth_s, sf_0, sf_s, cnd_0, cnd_1, cnd_2, cnd_3, cnd_4, cnd_5, fit_0, fit_1, fit_2, en_0, en_i, en_l, en_r, kb_t, kb_f, kb_n, sw_0, sw_s, ↓reduceIte, Nat.reduceEqDiff, Nat.left_eq_add, Nat.add_eq_left, Nat.add_left_cancel_iff, Nat.reduceAdd, Int.reduceLT, Int.reduceLE, Int.reduceAdd, Int.reduceSub, Int.reduceNeg, Int.reduceMul, Int.reduceToNat, Int.reduceEq, reduceCtorEq, true_and, and_true, true_or, or_true, and_false, false_and, or_false, false_or, not_true_eq_false, not_false_eq_true, Nat.le_refl, and_self, Sum.inl.injEq, Sum.inr.injEq, Option.some.injEq, hS_2, k_isref, pd_0, pd_s, List.cons_append, List.nil_append, Option.toList_none, Option.toList_some, tX12_lists, rX12_lists, k1, k98, k99, e1, e2, nat1, Int.toNat_natCast]
    (repeat (first | exact hnx | refine ⟨⟨by omega, by omega⟩, ?_⟩ | refine And.intro (by omega) ?_))
set_option maxRecDepth 100000 in
set_option maxHeartbeats 4000000 in
theorem w_lsS (hM : MPt h t pc op oq pt ob) (hpc : pc ≤ 8) (hop : ∀ k : Nat, k < pc → -1 ≤ op k ∧ op k < k) (hd : 1 ≤ d) {np G : F_} {n mo_ : Int} {p0 : Nat}
    (kk : k_Wp x d 0 0 mX12_lists P 0 0 220 [some (vR 57), some (vI n), some (vI mo_), some (vI p0), none] [] (lsH h np G)) : ∀ (j p : Nat) (pi : F_), p + j = pc → stl pc op oq j p pi = G →
    k_Wp x d 0 0 mX12_lists P 0 0 172 [some (vR 57), some (vI n), some (vI mo_), some (vI p0), some (vI p)] [] (lsH h np pi) := by
  intro j
  induction j with
  | zero =>
    intro p pi hp he
    have he : pi = G := he
    subst he
    have k1 := (lsH_n (h := h) (np := np) (pi := pi) (z := 57) (by decide) (by decide)).trans hM.1
    have e1 : t 31 ≤ (p : Int) := by have := hM.2.1; omega
    generalize lsH h np pi = h3 at k1 kk ⊢
    refine p_go [220] 40 ?_
    simp only [st_0, st_1, st_2, st_3, st_4, st_5, st_6, st_7, st_8, st_9, st_10, st_11, st_12, st_13, st_14, st_15, st_16, st_17, st_18, st_19, st_20, st_21, st_22, st_23, st_24, st_25, st_26, st_27, st_28, st_29, st_30, st_31, st_32, st_33, st_34, st_34a, st_35, st_36, st_37, st_38, st_39, st_42, st_44, st_45, st_47, st_40, st_41, st_46, st_48, st_49, st_43, go_0, go_s, cut_0, cut_s, get_0, get_s, put_0, put_1, put_s, clr_0, clr_s, unl_i, unl_l, unl_r, unl_n, nth_0, nth_s, sf_0, sf_s, cnd_0, cnd_1, cnd_2, cnd_3, cnd_4, cnd_5, fit_0, fit_1, fit_2, en_0, en_i, en_l, en_r, kb_t, kb_f, kb_n, sw_0, sw_s, ↓reduceIte, Nat.reduceEqDiff, Nat.left_eq_add, Nat.add_eq_left, Nat.add_left_cancel_iff, Nat.reduceAdd, Int.reduceLT, Int.reduceLE, Int.reduceAdd, Int.reduceSub, Int.reduceNeg, Int.reduceMul, Int.reduceToNat, Int.reduceEq, reduceCtorEq, true_and, and_true, true_or, or_true, and_false, false_and, or_false, false_or, not_true_eq_false, not_false_eq_true, Nat.le_refl, and_self, Sum.inl.injEq, Sum.inr.injEq, Option.some.injEq, hS_2, k_isref, pd_0, pd_s, List.cons_append, List.nil_append, Option.toList_none, Option.toList_some, tX12_lists, rX12_lists, k1, e1]
    exact p_sub (by (repeat (first | exact le_nil | refine le_s ?_ | refine le_n ?_))) kk
  | succ j ih =>
    intro p pi hp he
    unfold stl at he
    obtain ⟨pp, pa, pl, pm, a1, a2, a3, a4, a5⟩ := hM.2.2
    obtain ⟨b1, b2, b3, b4⟩ := a5 p (by omega)
    have k1 := (lsH_n (h := h) (np := np) (pi := pi) (z := 57) (by decide) (by decide)).trans hM.1
    have k91 := (lsH_n (h := h) (np := np) (pi := pi) (z := 76) (by decide) (by decide)).trans a1
    have k92 := (lsH_n (h := h) (np := np) (pi := pi) (z := 77) (by decide) (by decide)).trans a2
    have k99 := lsH_99 (h := h) (np := np) (pi := pi)
    have e1 : ¬ t 31 ≤ (p : Int) := by have := hM.2.1; omega
    have hev := e_isCome (x := x) (d := 0) (z := op p) (a := oq p) k1 k99 hpc (by have := hop p (by omega); omega)
    have hnx := ih (p + 1) _ (by omega) he
    rw [← lsH_p (pi := pi)] at hnx
    generalize lsH h np pi = h3 at k1 k91 k92 k99 hev hnx ⊢
    refine p_go [] 40 ?_
    simp only [st_0, st_1, st_2, st_3, st_4, st_5, st_6, st_7, st_8, st_9, st_10, st_11, st_12, st_13, st_14, st_15, st_16, st_17, st_18, st_19, st_20, st_21, st_22, st_23, st_24, st_25, st_26, st_27, st_28, st_29, st_30, st_31, st_32, st_33, st_34, st_34a, st_35, st_36, st_37, st_38, st_39, st_42, st_44, st_45, st_47, st_40, st_41, st_46, st_48, st_49, st_43, go_0, go_s, cut_0, cut_s, get_0, get_s, put_0, put_1, put_s, clr_0, clr_s, unl_i, unl_l, unl_r, unl_n, nth_0, nth_s, sf_0, sf_s, cnd_0, cnd_1, cnd_2, cnd_3, cnd_4, cnd_5, fit_0, fit_1, fit_2, en_0, en_i, en_l, en_r, kb_t, kb_f, kb_n, sw_0, sw_s, ↓reduceIte, Nat.reduceEqDiff, Nat.left_eq_add, Nat.add_eq_left, Nat.add_left_cancel_iff, Nat.reduceAdd, Int.reduceLT, Int.reduceLE, Int.reduceAdd, Int.reduceSub, Int.reduceNeg, Int.reduceMul, Int.reduceToNat, Int.reduceEq, reduceCtorEq, true_and, and_true, true_or, or_true, and_false, false_and, or_false, false_or, not_true_eq_false, not_false_eq_true, Nat.le_refl, and_self, Sum.inl.injEq, Sum.inr.injEq, Option.some.injEq, hS_2, k_isref, pd_0, pd_s, List.cons_append, List.nil_append, Option.toList_none, Option.toList_some, tX12_lists, rX12_lists, k1, k91, k92, b1, b2, e1, Int.toNat_natCast]
    refine ⟨⟨by omega, by omega⟩, ⟨by omega, by omega⟩, ?_⟩
    refine cV (d' := 0) [vI (op p), vI (oq p)] [vI p, vR 84] l_12_204 k1 hev (by omega) (p_go [172] 40 ?_)
    by_cases hc : cm pc pi (op p) (oq p) = 0
    · rw [if_pos hc] at hnx
      rw [hc]
      simp only [st_0, st_1, st_2, st_3, st_4, st_5, st_6, st_7, st_8, st_9, st_10, st_11, st_12, st_13, st_14, st_15, st_16, st_17, st_18, st_19, st_20, st_21, st_22, st_23, st_24, st_25, st_26, st_27, st_28, st_29, st_30, st_31, st_32, st_33, st_34, st_34a, st_35, st_36, st_37, st_38, st_39, st_42, st_44, st_45, st_47, st_40, st_41, st_46, st_48, st_49, st_43, go_0, go_s, cut_0, cut_s, get_0, get_s, put_0, put_1, put_s, clr_0, clr_s, unl_i, unl_l, unl_r, unl_n, nth_0, nth_s, sf_0, sf_s, cnd_0, cnd_1, cnd_2, cnd_3, cnd_4, cnd_5, fit_0, fit_1, fit_2, en_0, en_i, en_l, en_r, kb_t, kb_f, kb_n, sw_0, sw_s, ↓reduceIte, Nat.reduceEqDiff, Nat.left_eq_add, Nat.add_eq_left, Nat.add_left_cancel_iff, Nat.reduceAdd, Int.reduceLT, Int.reduceLE, Int.reduceAdd, Int.reduceSub, Int.reduceNeg, Int.reduceMul, Int.reduceToNat, Int.reduceEq, reduceCtorEq, true_and, and_true, true_or, or_true, and_false, false_and, or_false, false_or, not_true_eq_false, not_false_eq_true, Nat.le_refl, and_self, Sum.inl.injEq, Sum.inr.injEq, Option.some.injEq, hS_2, k_isref, pd_0, pd_s, List.cons_append, List.nil_append, Option.toList_none, Option.toList_some, tX12_lists, rX12_lists, k99, nat1, Int.toNat_natCast]
      (repeat (first | exact hnx | refine ⟨⟨by omega, by omega⟩, ?_⟩ | refine And.intro (by omega) ?_))
    · rw [if_neg hc] at hnx
      have hc1 : cm pc pi (op p) (oq p) = 1 := by
        unfold cm at hc ⊢
        split <;> rename_i q
        · rw [if_pos q] at hc; exact absurd rfl hc
        · rfl
      rw [hc1]
      simp only [st_0, st_1, st_2, st_3, st_4, st_5, st_6, st_7, st_8, st_9, st_10, st_11, st_12, st_13, st_14, st_15, st_16, st_17, st_18, st_19, st_20, st_21, st_22, st_23, st_24, st_25, st_26, st_27, st_28, st_29, st_30, st_31, st_32, st_33, st_34, st_34a, st_35, st_36, st_37, st_38, st_39, st_42, st_44, st_45, st_47, st_40, st_41, st_46, st_48, st_49, st_43, go_0, go_s, cut_0, cut_s, get_0, get_s, put_0, put_1, put_s, clr_0, clr_s, unl_i, unl_l, unl_r, unl_n, nth_0, nth_s, sf_0, sf_s, cnd_0, cnd_1, cnd_2, cnd_3, cnd_4, cnd_5, fit_0, fit_1, fit_2, en_0, en_i, en_l, en_r, kb_t, kb_f, kb_n, sw_0, sw_s, ↓reduceIte, Nat.reduceEqDiff, Nat.left_eq_add, Nat.add_eq_left, Nat.add_left_cancel_iff, Nat.reduceAdd, Int.reduceLT, Int.reduceLE, Int.reduceAdd, Int.reduceSub, Int.reduceNeg, Int.reduceMul, Int.reduceToNat, Int.reduceEq, reduceCtorEq, true_and, and_true, true_or, or_true, and_false, false_and, or_false, false_or, not_true_eq_false, not_false_eq_true, Nat.le_refl, and_self, Sum.inl.injEq, Sum.inr.injEq, Option.some.injEq, hS_2, k_isref, pd_0, pd_s, List.cons_append, List.nil_append, Option.toList_none, Option.toList_some, tX12_lists, rX12_lists, k99, nat1, Int.toNat_natCast]
      (repeat (first | exact hnx | refine ⟨⟨by omega, by omega⟩, ?_⟩ | refine And.intro (by omega) ?_))
set_option maxRecDepth 100000 in
set_option maxHeartbeats 4000000 in
theorem w_lsP (hM : MPt h t pc op oq pt ob) (hpc : pc ≤ 8) (hop : ∀ k : Nat, k < pc → -1 ≤ op k ∧ op k < k) (hpt : ∀ k : Nat, k < pc → 1 ≤ pt k ∧ pt k ≤ 400) (hd : 1 ≤ d) {np pi : F_} {n : Nat} {G : Option F_} (hB : nwB pc pt ob pi)
    (kN : G = none → k_Wp x d 0 0 mX12_lists P 0 0 50 [some (vR 57), some (vI n), some (vI 0), none, none] [] (lsH h np pi))
    (kS : ∀ pi', G = some pi' → k_Wp x d 0 0 mX12_lists P 0 0 50 [some (vR 57), some (vI n), some (vI 1), none, none] [] (lsH h np pi')) : ∀ (p : Nat), p ≤ pc → stp pc op oq pt ob pi p = G →
    k_Wp x d 0 0 mX12_lists P 0 0 106 [some (vR 57), some (vI n), some (vI 1), some (vI ((p : Int) - 1)), none] [] (lsH h np pi) := by
  obtain ⟨pp, pa, pl, pm, a1, a2, a3, a4, a5⟩ := id hM.2.2
  have k1 := (lsH_n (h := h) (np := np) (pi := pi) (z := 57) (by decide) (by decide)).trans hM.1
  have k93 := (lsH_n (h := h) (np := np) (pi := pi) (z := 78) (by decide) (by decide)).trans a3
  have k94 := (lsH_n (h := h) (np := np) (pi := pi) (z := 79) (by decide) (by decide)).trans a4
  have k99 := lsH_99 (h := h) (np := np) (pi := pi)
  intro p
  induction p with
  | zero =>
    intro hp he
    have he : none = G := he
    have hl := kN he.symm
    have e0 : ((0 : Nat) : Int) - 1 < 0 := by omega
    refine p_go [50] 40 ?_
    simp only [st_0, st_1, st_2, st_3, st_4, st_5, st_6, st_7, st_8, st_9, st_10, st_11, st_12, st_13, st_14, st_15, st_16, st_17, st_18, st_19, st_20, st_21, st_22, st_23, st_24, st_25, st_26, st_27, st_28, st_29, st_30, st_31, st_32, st_33, st_34, st_34a, st_35, st_36, st_37, st_38, st_39, st_42, st_44, st_45, st_47, st_40, st_41, st_46, st_48, st_49, st_43, go_0, go_s, cut_0, cut_s, get_0, get_s, put_0, put_1, put_s, clr_0, clr_s, unl_i, unl_l, unl_r, unl_n, nth_0, nth_s, sf_0, sf_s, cnd_0, cnd_1, cnd_2, cnd_3, cnd_4, cnd_5, fit_0, fit_1, fit_2, en_0, en_i, en_l, en_r, kb_t, kb_f, kb_n, sw_0, sw_s, ↓reduceIte, Nat.reduceEqDiff, Nat.left_eq_add, Nat.add_eq_left, Nat.add_left_cancel_iff, Nat.reduceAdd, Int.reduceLT, Int.reduceLE, Int.reduceAdd, Int.reduceSub, Int.reduceNeg, Int.reduceMul, Int.reduceToNat, Int.reduceEq, reduceCtorEq, true_and, and_true, true_or, or_true, and_false, false_and, or_false, false_or, not_true_eq_false, not_false_eq_true, Nat.le_refl, and_self, Sum.inl.injEq, Sum.inr.injEq, Option.some.injEq, hS_2, k_isref, pd_0, pd_s, List.cons_append, List.nil_append, Option.toList_none, Option.toList_some, tX12_lists, rX12_lists, e0]
    exact p_sub (by (repeat (first | exact le_nil | refine le_s ?_ | refine le_n ?_))) hl
  | succ p ih =>
    intro hp he
    unfold stp at he
    have ep : ((p + 1 : Nat) : Int) - 1 = (p : Int) := by omega
    have e0 : ¬ ((p : Nat) : Int) < 0 := by omega
    have em : (p : Int) + -1 = (p : Int) - 1 := by omega
    have hb := hB p (by omega)
    rw [ep]
    -- the step is made
    have sm : ¬ (pi p = -1 ∨ pi p = lstP pt ob p) → k_Wp x d 0 0 mX12_lists P 0 0 140 [some (vR 57), some (vI n), some (vI 1), some (vI p), none] [] (lsH h np pi) := by
      intro hc
      rw [if_pos (by omega)] at he
      have hl := kS _ he.symm
      have hw := w_lsS (x := x) (d := d) (P := P) (n := n) (mo_ := 1) (p0 := p) (np := np) hM hpc hop hd (G := stl pc op oq (pc - (p + 1)) (p + 1) (fS pi p (pi p + 1))) (p_go [50] 40 (by
        simp only [st_0, st_1, st_2, st_3, st_4, st_5, st_6, st_7, st_8, st_9, st_10, st_11, st_12, st_13, st_14, st_15, st_16, st_17, st_18, st_19, st_20, st_21, st_22, st_23, st_24, st_25, st_26, st_27, st_28, st_29, st_30, st_31, st_32, st_33, st_34, st_34a, st_35, st_36, st_37, st_38, st_39, st_42, st_44, st_45, st_47, st_40, st_41, st_46, st_48, st_49, st_43, go_0, go_s, cut_0, cut_s, get_0, get_s, put_0, put_1, put_s, clr_0, clr_s, unl_i, unl_l, unl_r, unl_n, nth_0, nth_s, sf_0, sf_s, cnd_0, cnd_1, cnd_2, cnd_3, cnd_4, cnd_5, fit_0, fit_1, fit_2, en_0, en_i, en_l, en_r, kb_t, kb_f, kb_n, sw_0, sw_s, ↓reduceIte, Nat.reduceEqDiff, Nat.left_eq_add, Nat.add_eq_left, Nat.add_left_cancel_iff, Nat.reduceAdd, Int.reduceLT, Int.reduceLE, Int.reduceAdd, Int.reduceSub, Int.reduceNeg, Int.reduceMul, Int.reduceToNat, Int.reduceEq, reduceCtorEq, true_and, and_true, true_or, or_true, and_false, false_and, or_false, false_or, not_true_eq_false, not_false_eq_true, Nat.le_refl, and_self, Sum.inl.injEq, Sum.inr.injEq, Option.some.injEq, hS_2, k_isref, pd_0, pd_s, List.cons_append, List.nil_append, Option.toList_none, Option.toList_some, tX12_lists, rX12_lists]
        exact p_sub (by (repeat (first | exact le_nil | refine le_s ?_ | refine le_n ?_))) hl)) (pc - (p + 1)) (p + 1) (fS pi p (pi p + 1)) (by omega) rfl
      rw [← lsH_p (pi := pi)] at hw
      have hub : lstP pt ob p ≤ 400 := by
        have := hpt p (by omega)
        unfold lstP
        split <;> omega
      generalize lsH h np pi = h3 at k1 k99 hw ⊢
      refine p_go [172] 40 ?_
      simp only [st_0, st_1, st_2, st_3, st_4, st_5, st_6, st_7, st_8, st_9, st_10, st_11, st_12, st_13, st_14, st_15, st_16, st_17, st_18, st_19, st_20, st_21, st_22, st_23, st_24, st_25, st_26, st_27, st_28, st_29, st_30, st_31, st_32, st_33, st_34, st_34a, st_35, st_36, st_37, st_38, st_39, st_42, st_44, st_45, st_47, st_40, st_41, st_46, st_48, st_49, st_43, go_0, go_s, cut_0, cut_s, get_0, get_s, put_0, put_1, put_s, clr_0, clr_s, unl_i, unl_l, unl_r, unl_n, nth_0, nth_s, sf_0, sf_s, cnd_0, cnd_1, cnd_2, cnd_3, cnd_4, cnd_5, fit_0, fit_1, fit_2, en_0, en_i, en_l, en_r, kb_t, kb_f, kb_n, sw_0, sw_s, ↓reduceIte, Nat.reduceEqDiff, Nat.left_eq_add, Nat.add_eq_left, Nat.add_left_cancel_iff, Nat.reduceAdd, Int.reduceLT, Int.reduceLE, Int.reduceAdd, Int.reduceSub, Int.reduceNeg, Int.reduceMul, Int.reduceToNat, Int.reduceEq, reduceCtorEq, true_and, and_true, true_or, or_true, and_false, false_and, or_false, false_or, not_true_eq_false, not_false_eq_true, Nat.le_refl, and_self, Sum.inl.injEq, Sum.inr.injEq, Option.some.injEq, hS_2, k_isref, pd_0, pd_s, List.cons_append, List.nil_append, Option.toList_none, Option.toList_some, tX12_lists, rX12_lists, k99, k1, e0, nat1, Int.toNat_natCast]
      (repeat (first | exact hw | refine ⟨⟨by omega, by omega⟩, ?_⟩ | refine And.intro (by omega) ?_))
    have nx : (pi p = -1 ∨ pi p = lstP pt ob p) → k_Wp x d 0 0 mX12_lists P 0 0 134 [some (vR 57), some (vI n), some (vI 1), some (vI p), none] [] (lsH h np pi) := by
      intro hc
      rw [if_neg (by omega)] at he
      have hl := ih (by omega) he
      refine p_go [106] 40 ?_
      simp only [st_0, st_1, st_2, st_3, st_4, st_5, st_6, st_7, st_8, st_9, st_10, st_11, st_12, st_13, st_14, st_15, st_16, st_17, st_18, st_19, st_20, st_21, st_22, st_23, st_24, st_25, st_26, st_27, st_28, st_29, st_30, st_31, st_32, st_33, st_34, st_34a, st_35, st_36, st_37, st_38, st_39, st_42, st_44, st_45, st_47, st_40, st_41, st_46, st_48, st_49, st_43, go_0, go_s, cut_0, cut_s, get_0, get_s, put_0, put_1, put_s, clr_0, clr_s, unl_i, unl_l, unl_r, unl_n, nth_0, nth_s, sf_0, sf_s, cnd_0, cnd_1, cnd_2, cnd_3, cnd_4, cnd_5, fit_0, fit_1, fit_2, en_0, en_i, en_l, en_r, kb_t, kb_f, kb_n, sw_0, sw_s, ↓reduceIte, Nat.reduceEqDiff, Nat.left_eq_add, Nat.add_eq_left, Nat.add_left_cancel_iff, Nat.reduceAdd, Int.reduceLT, Int.reduceLE, Int.reduceAdd, Int.reduceSub, Int.reduceNeg, Int.reduceMul, Int.reduceToNat, Int.reduceEq, reduceCtorEq, true_and, and_true, true_or, or_true, and_false, false_and, or_false, false_or, not_true_eq_false, not_false_eq_true, Nat.le_refl, and_self, Sum.inl.injEq, Sum.inr.injEq, Option.some.injEq, hS_2, k_isref, pd_0, pd_s, List.cons_append, List.nil_append, Option.toList_none, Option.toList_some, tX12_lists, rX12_lists, em]
      exact ⟨⟨by omega, by omega⟩, hl⟩
    refine p_go [134, 140] 40 ?_
    by_cases h1 : pi p = -1
    · have e1 : (pi p = -1) = True := eq_true h1
      have hl := nx (Or.inl h1)
      generalize lsH h np pi = h3 at k1 k99 hl ⊢
      simp only [st_0, st_1, st_2, st_3, st_4, st_5, st_6, st_7, st_8, st_9, st_10, st_11, st_12, st_13, st_14, st_15, st_16, st_17, st_18, st_19, st_20, st_21, st_22, st_23, st_24, st_25, st_26, st_27, st_28, st_29, st_30, st_31, st_32, st_33, st_34, st_34a, st_35, st_36, st_37, st_38, st_39, st_42, st_44, st_45, st_47, st_40, st_41, st_46, st_48, st_49, st_43, go_0, go_s, cut_0, cut_s, get_0, get_s, put_0, put_1, put_s, clr_0, clr_s, unl_i, unl_l, unl_r, unl_n, nth_0, nth_s, sf_0, sf_s, cnd_0, cnd_1, cnd_2, cnd_3, cnd_4, cnd_5, fit_0, fit_1, fit_2, en_0, en_i, en_l, en_r, kb_t, kb_f, kb_n, sw_0, sw_s, ↓reduceIte, Nat.reduceEqDiff, Nat.left_eq_add, Nat.add_eq_left, Nat.add_left_cancel_iff, Nat.reduceAdd, Int.reduceLT, Int.reduceLE, Int.reduceAdd, Int.reduceSub, Int.reduceNeg, Int.reduceMul, Int.reduceToNat, Int.reduceEq, reduceCtorEq, true_and, and_true, true_or, or_true, and_false, false_and, or_false, false_or, not_true_eq_false, not_false_eq_true, Nat.le_refl, and_self, Sum.inl.injEq, Sum.inr.injEq, Option.some.injEq, hS_2, k_isref, pd_0, pd_s, List.cons_append, List.nil_append, Option.toList_none, Option.toList_some, tX12_lists, rX12_lists, k1, k99, e0, e1, Int.toNat_natCast]
      exact ⟨⟨by omega, by omega⟩, hl⟩
    · have e1 : (pi p = -1) = False := eq_false h1
      obtain ⟨b1, b2, b3, b4⟩ := a5 p (by omega)
      have hev := e_most (x := x) (d := 0) k1 k93 k94 hpc (show p < pc by omega) b3 b4 (hpt p (by omega))
      generalize lsH h np pi = h3 at k1 k99 hev sm nx ⊢
      simp only [st_0, st_1, st_2, st_3, st_4, st_5, st_6, st_7, st_8, st_9, st_10, st_11, st_12, st_13, st_14, st_15, st_16, st_17, st_18, st_19, st_20, st_21, st_22, st_23, st_24, st_25, st_26, st_27, st_28, st_29, st_30, st_31, st_32, st_33, st_34, st_34a, st_35, st_36, st_37, st_38, st_39, st_42, st_44, st_45, st_47, st_40, st_41, st_46, st_48, st_49, st_43, go_0, go_s, cut_0, cut_s, get_0, get_s, put_0, put_1, put_s, clr_0, clr_s, unl_i, unl_l, unl_r, unl_n, nth_0, nth_s, sf_0, sf_s, cnd_0, cnd_1, cnd_2, cnd_3, cnd_4, cnd_5, fit_0, fit_1, fit_2, en_0, en_i, en_l, en_r, kb_t, kb_f, kb_n, sw_0, sw_s, ↓reduceIte, Nat.reduceEqDiff, Nat.left_eq_add, Nat.add_eq_left, Nat.add_left_cancel_iff, Nat.reduceAdd, Int.reduceLT, Int.reduceLE, Int.reduceAdd, Int.reduceSub, Int.reduceNeg, Int.reduceMul, Int.reduceToNat, Int.reduceEq, reduceCtorEq, true_and, and_true, true_or, or_true, and_false, false_and, or_false, false_or, not_true_eq_false, not_false_eq_true, Nat.le_refl, and_self, Sum.inl.injEq, Sum.inr.injEq, Option.some.injEq, hS_2, k_isref, pd_0, pd_s, List.cons_append, List.nil_append, Option.toList_none, Option.toList_some, tX12_lists, rX12_lists, k1, k99, e0, e1, Int.toNat_natCast]
      refine ⟨⟨by omega, by omega⟩, ⟨by omega, by omega⟩, ?_⟩
      refine cV (d' := 0) [vI p] [vI (pi p)] l_12_208 k1 hev (by omega) (p_go [134, 140] 40 ?_)
      by_cases h2 : pi p = lstP pt ob p
      · have e2 : (pi p = lstP pt ob p) = True := eq_true h2
        simp only [st_0, st_1, st_2, st_3, st_4, st_5, st_6, st_7, st_8, st_9, st_10, st_11, st_12, st_13, st_14, st_15, st_16, st_17, st_18, st_19, st_20, st_21, st_22, st_23, st_24, st_25, st_26, st_27, st_28, st_29, st_30, st_31, st_32, st_33, st_34, st_34a, st_35, st_36, st_37, st_38, st_39, st_42, st_44, st_45, st_47, st_40, st_41, st_46, st_48, st_49, st_43, go_0, go_s, cut_0, cut_s, get_0, get_s, put_0, put_1, put_s, clr_0, clr_s, unl_i, unl_l, unl_r, unl_n, nth_0, nth_s, sf_0, sf_s, cnd_0, cnd_1, cnd_2, cnd_3, cnd_4, cnd_5, fit_0, fit_1, fit_2, en_0, en_i, en_l, en_r, kb_t, kb_f, kb_n, sw_0, sw_s, ↓reduceIte, Nat.reduceEqDiff, Nat.left_eq_add, Nat.add_eq_left, Nat.add_left_cancel_iff, Nat.reduceAdd, Int.reduceLT, Int.reduceLE, Int.reduceAdd, Int.reduceSub, Int.reduceNeg, Int.reduceMul, Int.reduceToNat, Int.reduceEq, reduceCtorEq, true_and, and_true, true_or, or_true, and_false, false_and, or_false, false_or, not_true_eq_false, not_false_eq_true, Nat.le_refl, and_self, Sum.inl.injEq, Sum.inr.injEq, Option.some.injEq, hS_2, k_isref, pd_0, pd_s, List.cons_append, List.nil_append, Option.toList_none, Option.toList_some, tX12_lists, rX12_lists, e2]
        exact nx (Or.inr h2)
      · have e2 : (pi p = lstP pt ob p) = False := eq_false h2
        simp only [st_0, st_1, st_2, st_3, st_4, st_5, st_6, st_7, st_8, st_9, st_10, st_11, st_12, st_13, st_14, st_15, st_16, st_17, st_18, st_19, st_20, st_21, st_22, st_23, st_24, st_25, st_26, st_27, st_28, st_29, st_30, st_31, st_32, st_33, st_34, st_34a, st_35, st_36, st_37, st_38, st_39, st_42, st_44, st_45, st_47, st_40, st_41, st_46, st_48, st_49, st_43, go_0, go_s, cut_0, cut_s, get_0, get_s, put_0, put_1, put_s, clr_0, clr_s, unl_i, unl_l, unl_r, unl_n, nth_0, nth_s, sf_0, sf_s, cnd_0, cnd_1, cnd_2, cnd_3, cnd_4, cnd_5, fit_0, fit_1, fit_2, en_0, en_i, en_l, en_r, kb_t, kb_f, kb_n, sw_0, sw_s, ↓reduceIte, Nat.reduceEqDiff, Nat.left_eq_add, Nat.add_eq_left, Nat.add_left_cancel_iff, Nat.reduceAdd, Int.reduceLT, Int.reduceLE, Int.reduceAdd, Int.reduceSub, Int.reduceNeg, Int.reduceMul, Int.reduceToNat, Int.reduceEq, reduceCtorEq, true_and, and_true, true_or, or_true, and_false, false_and, or_false, false_or, not_true_eq_false, not_false_eq_true, Nat.le_refl, and_self, Sum.inl.injEq, Sum.inr.injEq, Option.some.injEq, hS_2, k_isref, pd_0, pd_s, List.cons_append, List.nil_append, Option.toList_none, Option.toList_some, tX12_lists, rX12_lists, e2]
        exact sm (by omega)
set_option maxRecDepth 100000 in
set_option maxHeartbeats 4000000 in
theorem w_lists (hM : MPt h t pc op oq pt ob) (hpc : pc ≤ 8) (hop : ∀ k : Nat, k < pc → -1 ≤ op k ∧ op k < k) (hpt : ∀ k : Nat, k < pc → 1 ≤ pt k ∧ pt k ≤ 400) (hd : 1 ≤ d) : ∀ (j n : Nat) (nw pi np : F_), n + j = 120 → agr pc pi nw → nwB pc pt ob pi →
    k_Wp x d 0 0 mX12_lists (fun o h' => o = rI (lsC pc op oq pt ob j n nw np).1 ∧ ∃ pi', h' = lsH h (lsC pc op oq pt ob j n nw np).2 pi') 0 0 50 [some (vR 57), some (vI n), some (vI 1), none, none] [] (lsH h np pi) := by
  intro j
  induction j with
  | zero =>
    intro n nw pi np hn ha hB
    have e1 : ((n : Int) = 120) = True := eq_true (by omega)
    unfold lsC
    refine p_go [] 40 ?_
    simp only [st_0, st_1, st_2, st_3, st_4, st_5, st_6, st_7, st_8, st_9, st_10, st_11, st_12, st_13, st_14, st_15, st_16, st_17, st_18, st_19, st_20, st_21, st_22, st_23, st_24, st_25, st_26, st_27, st_28, st_29, st_30, st_31, st_32, st_33, st_34, st_34a, st_35, st_36, st_37, st_38, st_39, st_42, st_44, st_45, st_47, st_40, st_41, st_46, st_48, st_49, st_43, go_0, go_s, cut_0, cut_s, get_0, get_s, put_0, put_1, put_s, clr_0, clr_s, unl_i, unl_l, unl_r, unl_n, nth_0, nth_s, sf_0, sf_s, cnd_0, cnd_1, cnd_2, cnd_3, cnd_4, cnd_5, fit_0, fit_1, fit_2, en_0, en_i, en_l, en_r, kb_t, kb_f, kb_n, sw_0, sw_s, ↓reduceIte, Nat.reduceEqDiff, Nat.left_eq_add, Nat.add_eq_left, Nat.add_left_cancel_iff, Nat.reduceAdd, Int.reduceLT, Int.reduceLE, Int.reduceAdd, Int.reduceSub, Int.reduceNeg, Int.reduceMul, Int.reduceToNat, Int.reduceEq, reduceCtorEq, true_and, and_true, true_or, or_true, and_false, false_and, or_false, false_or, not_true_eq_false, not_false_eq_true, Nat.le_refl, and_self, Sum.inl.injEq, Sum.inr.injEq, Option.some.injEq, hS_2, k_isref, pd_0, pd_s, List.cons_append, List.nil_append, Option.toList_none, Option.toList_some, tX12_lists, rX12_lists, e1]
    exact ⟨pi, rfl⟩
  | succ j ih =>
    intro n nw pi np hn ha hB
    have e1 : ((n : Int) = 120) = False := eq_false (by omega)
    have k1 := (lsH_n (h := h) (np := va_cpy pi np 0 (8 * n) pc) (pi := pi) (z := 57) (by decide) (by decide)).trans hM.1
    have hw := w_lsR (x := x) (d := d) (P := fun o h' => o = rI (lsC pc op oq pt ob (j + 1) n nw np).1 ∧ ∃ pi', h' = lsH h (lsC pc op oq pt ob (j + 1) n nw np).2 pi') (mo_ := 1) hM hpc (show n < 120 by omega) (np := np) (pi := pi) ?_ pc 0 (by omega)
    · rw [cpy_0] at hw
      refine p_go [65] 40 ?_
      simp only [st_0, st_1, st_2, st_3, st_4, st_5, st_6, st_7, st_8, st_9, st_10, st_11, st_12, st_13, st_14, st_15, st_16, st_17, st_18, st_19, st_20, st_21, st_22, st_23, st_24, st_25, st_26, st_27, st_28, st_29, st_30, st_31, st_32, st_33, st_34, st_34a, st_35, st_36, st_37, st_38, st_39, st_42, st_44, st_45, st_47, st_40, st_41, st_46, st_48, st_49, st_43, go_0, go_s, cut_0, cut_s, get_0, get_s, put_0, put_1, put_s, clr_0, clr_s, unl_i, unl_l, unl_r, unl_n, nth_0, nth_s, sf_0, sf_s, cnd_0, cnd_1, cnd_2, cnd_3, cnd_4, cnd_5, fit_0, fit_1, fit_2, en_0, en_i, en_l, en_r, kb_t, kb_f, kb_n, sw_0, sw_s, ↓reduceIte, Nat.reduceEqDiff, Nat.left_eq_add, Nat.add_eq_left, Nat.add_left_cancel_iff, Nat.reduceAdd, Int.reduceLT, Int.reduceLE, Int.reduceAdd, Int.reduceSub, Int.reduceNeg, Int.reduceMul, Int.reduceToNat, Int.reduceEq, reduceCtorEq, true_and, and_true, true_or, or_true, and_false, false_and, or_false, false_or, not_true_eq_false, not_false_eq_true, Nat.le_refl, and_self, Sum.inl.injEq, Sum.inr.injEq, Option.some.injEq, hS_2, k_isref, pd_0, pd_s, List.cons_append, List.nil_append, Option.toList_none, Option.toList_some, tX12_lists, rX12_lists, e1]
      exact hw
    · have hgo : k_Wp x d 0 0 mX12_lists (fun o h' => o = rI (lsC pc op oq pt ob (j + 1) n nw np).1 ∧ ∃ pi', h' = lsH h (lsC pc op oq pt ob (j + 1) n nw np).2 pi') 0 0 106 [some (vR 57), some (vI ((n + 1 : Nat) : Int)), some (vI 1), some (vI ((pc : Int) - 1)), none] [] (lsH h (va_cpy pi np 0 (8 * n) pc) pi) := by
        rw [cpy_agr ha]
        refine w_lsP hM hpc hop hpt hd hB (fun hN => ?_) (fun pi' hS1 => ?_) pc (Nat.le_refl _) rfl
        · rcases stp_agr (oq := oq) (pt := pt) (ob := ob) hop ha pc (Nat.le_refl _) with ⟨q1, q2⟩ | ⟨a', b', q1, q2, q3⟩
          · have hl : lsC pc op oq pt ob (j + 1) n nw np = (((n + 1 : Nat) : Int), va_cpy nw np 0 (8 * n) pc) := by
              unfold lsC
              rw [q2]
            rw [hl]
            refine p_go [] 40 ?_
            simp only [st_0, st_1, st_2, st_3, st_4, st_5, st_6, st_7, st_8, st_9, st_10, st_11, st_12, st_13, st_14, st_15, st_16, st_17, st_18, st_19, st_20, st_21, st_22, st_23, st_24, st_25, st_26, st_27, st_28, st_29, st_30, st_31, st_32, st_33, st_34, st_34a, st_35, st_36, st_37, st_38, st_39, st_42, st_44, st_45, st_47, st_40, st_41, st_46, st_48, st_49, st_43, go_0, go_s, cut_0, cut_s, get_0, get_s, put_0, put_1, put_s, clr_0, clr_s, unl_i, unl_l, unl_r, unl_n, nth_0, nth_s, sf_0, sf_s, cnd_0, cnd_1, cnd_2, cnd_3, cnd_4, cnd_5, fit_0, fit_1, fit_2, en_0, en_i, en_l, en_r, kb_t, kb_f, kb_n, sw_0, sw_s, ↓reduceIte, Nat.reduceEqDiff, Nat.left_eq_add, Nat.add_eq_left, Nat.add_left_cancel_iff, Nat.reduceAdd, Int.reduceLT, Int.reduceLE, Int.reduceAdd, Int.reduceSub, Int.reduceNeg, Int.reduceMul, Int.reduceToNat, Int.reduceEq, reduceCtorEq, true_and, and_true, true_or, or_true, and_false, false_and, or_false, false_or, not_true_eq_false, not_false_eq_true, Nat.le_refl, and_self, Sum.inl.injEq, Sum.inr.injEq, Option.some.injEq, hS_2, k_isref, pd_0, pd_s, List.cons_append, List.nil_append, Option.toList_none, Option.toList_some, tX12_lists, rX12_lists]
            exact ⟨pi, rfl⟩
          · rw [hN] at q1; cases q1
        · rcases stp_agr (oq := oq) (pt := pt) (ob := ob) hop ha pc (Nat.le_refl _) with ⟨q1, q2⟩ | ⟨a', b', q1, q2, q3⟩
          · rw [hS1] at q1; cases q1
          · have hl : lsC pc op oq pt ob (j + 1) n nw np = lsC pc op oq pt ob j (n + 1) b' (va_cpy nw np 0 (8 * n) pc) := by
              conv => lhs; unfold lsC
              rw [q2]
            rw [hl]
            rw [hS1] at q1
            cases q1
            exact ih (n + 1) b' pi' _ (by omega) q3 (stp_B (fun k hk => (hpt k hk).1) hB pc (Nat.le_refl _) pi' hS1)
      have h31 := hM.2.1
      generalize lsH h (va_cpy pi np 0 (8 * n) pc) pi = h3 at k1 hgo ⊢
      refine p_go [106] 40 ?_
      simp only [st_0, st_1, st_2, st_3, st_4, st_5, st_6, st_7, st_8, st_9, st_10, st_11, st_12, st_13, st_14, st_15, st_16, st_17, st_18, st_19, st_20, st_21, st_22, st_23, st_24, st_25, st_26, st_27, st_28, st_29, st_30, st_31, st_32, st_33, st_34, st_34a, st_35, st_36, st_37, st_38, st_39, st_42, st_44, st_45, st_47, st_40, st_41, st_46, st_48, st_49, st_43, go_0, go_s, cut_0, cut_s, get_0, get_s, put_0, put_1, put_s, clr_0, clr_s, unl_i, unl_l, unl_r, unl_n, nth_0, nth_s, sf_0, sf_s, cnd_0, cnd_1, cnd_2, cnd_3, cnd_4, cnd_5, fit_0, fit_1, fit_2, en_0, en_i, en_l, en_r, kb_t, kb_f, kb_n, sw_0, sw_s, ↓reduceIte, Nat.reduceEqDiff, Nat.left_eq_add, Nat.add_eq_left, Nat.add_left_cancel_iff, Nat.reduceAdd, Int.reduceLT, Int.reduceLE, Int.reduceAdd, Int.reduceSub, Int.reduceNeg, Int.reduceMul, Int.reduceToNat, Int.reduceEq, reduceCtorEq, true_and, and_true, true_or, or_true, and_false, false_and, or_false, false_or, not_true_eq_false, not_false_eq_true, Nat.le_refl, and_self, Sum.inl.injEq, Sum.inr.injEq, Option.some.injEq, hS_2, k_isref, pd_0, pd_s, List.cons_append, List.nil_append, Option.toList_none, Option.toList_some, tX12_lists, rX12_lists, k1, h31, nat1]
      refine ⟨⟨by omega, by omega⟩, ⟨by omega, by omega⟩, ?_⟩
      exact p_sub (by (repeat (first | exact le_nil | refine le_s ?_ | refine le_n ?_))) hgo
set_option maxRecDepth 100000 in
set_option maxHeartbeats 4000000 in
theorem e_lists {np pi nw : F_} (hM : MPt h t pc op oq pt ob) (h98 : h.2 83 = some (cI 960 np)) (h99 : h.2 84 = some (cI 8 pi)) (hpc : pc ≤ 8) (hop : ∀ k : Nat, k < pc → -1 ≤ op k ∧ op k < k) (hpt : ∀ k : Nat, k < pc → 1 ≤ pt k ∧ pt k ≤ 400) (hd : 1 ≤ d) :
    k_Ev x d 0 0 mX12_lists [vR 57] h (fun o h' => o = rI (lsC pc op oq pt ob 120 0 (stl pc op oq pc 0 nw) np).1 ∧ ∃ pi', h' = lsH h (lsC pc op oq pt ob 120 0 (stl pc op oq pc 0 nw) np).2 pi') := by
  have hst := stl_agr (oq := oq) hop pc 0 pi nw (by omega) (fun k hk => by omega)
  rw [Nat.zero_add] at hst
  have hB := stl_B (op := op) (oq := oq) (ob := ob) (fun k hk => (hpt k hk).1) pc 0 pi (by omega) (fun k hk => by omega)
  rw [Nat.zero_add] at hB
  refine k_enp 4 (Nat.le_of_ble_eq_true rfl) (p_go [4] 40 ?_)
  simp only [st_0, st_1, st_2, st_3, st_4, st_5, st_6, st_7, st_8, st_9, st_10, st_11, st_12, st_13, st_14, st_15, st_16, st_17, st_18, st_19, st_20, st_21, st_22, st_23, st_24, st_25, st_26, st_27, st_28, st_29, st_30, st_31, st_32, st_33, st_34, st_34a, st_35, st_36, st_37, st_38, st_39, st_42, st_44, st_45, st_47, st_40, st_41, st_46, st_48, st_49, st_43, go_0, go_s, cut_0, cut_s, get_0, get_s, put_0, put_1, put_s, clr_0, clr_s, unl_i, unl_l, unl_r, unl_n, nth_0, nth_s, sf_0, sf_s, cnd_0, cnd_1, cnd_2, cnd_3, cnd_4, cnd_5, fit_0, fit_1, fit_2, en_0, en_i, en_l, en_r, kb_t, kb_f, kb_n, sw_0, sw_s, ↓reduceIte, Nat.reduceEqDiff, Nat.left_eq_add, Nat.add_eq_left, Nat.add_left_cancel_iff, Nat.reduceAdd, Int.reduceLT, Int.reduceLE, Int.reduceAdd, Int.reduceSub, Int.reduceNeg, Int.reduceMul, Int.reduceToNat, Int.reduceEq, reduceCtorEq, true_and, and_true, true_or, or_true, and_false, false_and, or_false, false_or, not_true_eq_false, not_false_eq_true, Nat.le_refl, and_self, Sum.inl.injEq, Sum.inr.injEq, Option.some.injEq, hS_2, k_isref, pd_0, pd_s, List.cons_append, List.nil_append, Option.toList_none, Option.toList_some, tX12_lists, rX12_lists]
  have hw := w_lsI (x := x) (d := d) (P := fun o h' => o = rI (lsC pc op oq pt ob 120 0 (stl pc op oq pc 0 nw) np).1 ∧ ∃ pi', h' = lsH h (lsC pc op oq pt ob 120 0 (stl pc op oq pc 0 nw) np).2 pi') hM hpc hop hd (np := np) (G := stl pc op oq pc 0 pi) (p_go [50] 40 (by
    simp only [st_0, st_1, st_2, st_3, st_4, st_5, st_6, st_7, st_8, st_9, st_10, st_11, st_12, st_13, st_14, st_15, st_16, st_17, st_18, st_19, st_20, st_21, st_22, st_23, st_24, st_25, st_26, st_27, st_28, st_29, st_30, st_31, st_32, st_33, st_34, st_34a, st_35, st_36, st_37, st_38, st_39, st_42, st_44, st_45, st_47, st_40, st_41, st_46, st_48, st_49, st_43, go_0, go_s, cut_0, cut_s, get_0, get_s, put_0, put_1, put_s, clr_0, clr_s, unl_i, unl_l, unl_r, unl_n, nth_0, nth_s, sf_0, sf_s, cnd_0, cnd_1, cnd_2, cnd_3, cnd_4, cnd_5, fit_0, fit_1, fit_2, en_0, en_i, en_l, en_r, kb_t, kb_f, kb_n, sw_0, sw_s, ↓reduceIte, Nat.reduceEqDiff, Nat.left_eq_add, Nat.add_eq_left, Nat.add_left_cancel_iff, Nat.reduceAdd, Int.reduceLT, Int.reduceLE, Int.reduceAdd, Int.reduceSub, Int.reduceNeg, Int.reduceMul, Int.reduceToNat, Int.reduceEq, reduceCtorEq, true_and, and_true, true_or, or_true, and_false, false_and, or_false, false_or, not_true_eq_false, not_false_eq_true, Nat.le_refl, and_self, Sum.inl.injEq, Sum.inr.injEq, Option.some.injEq, hS_2, k_isref, pd_0, pd_s, List.cons_append, List.nil_append, Option.toList_none, Option.toList_some, tX12_lists, rX12_lists]
    exact w_lists hM hpc hop hpt hd 120 0 _ _ np (by omega) hst hB)) pc 0 pi (by omega) rfl
  have eH : lsH h np pi = h := by
    unfold lsH
    rw [hS_id h98, hS_id h99]
  rw [eH] at hw
  exact hw
end Mlist82
