/-! Parser: bars, closings, signs, spellings -/
section Sign34
variable {x : Bool} {d : Nat} {h0 h : PH} {a p g r sz pn rc : Nat} {nw pk cl cs : F_}
set_option maxRecDepth 100000 in
set_option maxHeartbeats 4000000 in
theorem e_takeBar {S : PS} (hS1 : Ps h0 h a p g r sz pn rc nw pk cl cs S) (hI : psI rc S) (hrc : rc ≤ 400) (hra : r + 2 < a) (hag : a < g) (hd : 2 ≤ d) : k_Ev x d 0 0 mX6_takeBar [vR a, vR g] h (PsP h0 a p g r sz pn rc nw pk cl cs (tkBar S)) := by
  obtain ⟨⟨o, e⟩, ⟨wc, pc⟩, ⟨wl, ws, wp, wq⟩, ⟨op, oq, pt, ob⟩, ⟨lf, sf⟩⟩ := S
  obtain ⟨s1, s2, s3, ⟨g1, gR, g4, g5, g6, g7, g8, g9, g10, g11, gC⟩, s5, s6⟩ := hS1
  obtain ⟨i1, i2, i3, i4, i5, i6, i7, i8, i9⟩ := hI
  simp only at s3 g1 gR g4 g5 g6 g7 g8 g9 g10 g11 gC s5 s6 i1 i2 i3 i4 i5 i6 i7 i8 i9
  unfold tkBar
  refine k_enp 0 (Nat.le_of_ble_eq_true rfl) (p_go [] 40 ?_)
  simp only [st_0, st_1, st_2, st_3, st_4, st_5, st_6, st_7, st_8, st_9, st_10, st_11, st_12, st_13, st_14, st_15, st_16, st_17, st_18, st_19, st_20, st_21, st_22, st_23, st_24, st_25, st_26, st_27, st_28, st_29, st_30, st_31, st_32, st_33, st_34, st_34a, st_35, st_36, st_37, st_38, st_39, st_42, st_44, st_45, st_47, st_40, st_41, st_46, st_48, st_49, st_43, go_0, go_s, cut_0, cut_s, get_0, get_s, put_0, put_1, put_s, clr_0, clr_s, unl_i, unl_l, unl_r, unl_n, nth_0, nth_s, sf_0, sf_s, cnd_0, cnd_1, cnd_2, cnd_3, cnd_4, cnd_5, fit_0, fit_1, fit_2, en_0, en_i, en_l, en_r, kb_t, kb_f, kb_n, sw_0, sw_s, ↓reduceIte, Nat.reduceEqDiff, Nat.left_eq_add, Nat.add_eq_left, Nat.add_left_cancel_iff, Nat.reduceAdd, Int.reduceLT, Int.reduceLE, Int.reduceAdd, Int.reduceSub, Int.reduceNeg, Int.reduceMul, Int.reduceToNat, Int.reduceEq, reduceCtorEq, true_and, and_true, true_or, or_true, and_false, false_and, or_false, false_or, not_true_eq_false, not_false_eq_true, Nat.le_refl, and_self, Sum.inl.injEq, Sum.inr.injEq, Option.some.injEq, hS_2, k_isref, pd_0, pd_s, List.cons_append, List.nil_append, Option.toList_none, Option.toList_some, tX6_takeBar, rX6_takeBar, s3]
  refine k_brI (fun c1 => ?_) (fun c1 => k_brI (fun c2 => ?_) (fun c2 => ?_))
  · rw [if_pos (Or.inl c1)]
    exact ⟨rfl, s1, s2, s3, ⟨g1, gR, g4, g5, g6, g7, g8, g9, g10, g11, gC⟩, s5, s6⟩
  · rw [if_neg (by omega)]
    obtain ⟨k, hk⟩ : ∃ k : Nat, o = (k : Int) := ⟨o.toNat, by omega⟩
    subst hk
    refine cV (d' := 1) [vI k] [] l_6_84 g1 (e_addPart g1 g8 i4 (Nat.le_refl 1) (by omega) (fun k hk => ⟨(i7 k hk).1, by have := (i7 k hk).2; omega⟩)) (by omega) (p_go [] 40 ?_)
    have e8 : (a = g + 8) = False := eq_false (by omega)
    simp only [st_0, st_1, st_2, st_3, st_4, st_5, st_6, st_7, st_8, st_9, st_10, st_11, st_12, st_13, st_14, st_15, st_16, st_17, st_18, st_19, st_20, st_21, st_22, st_23, st_24, st_25, st_26, st_27, st_28, st_29, st_30, st_31, st_32, st_33, st_34, st_34a, st_35, st_36, st_37, st_38, st_39, st_42, st_44, st_45, st_47, st_40, st_41, st_46, st_48, st_49, st_43, go_0, go_s, cut_0, cut_s, get_0, get_s, put_0, put_1, put_s, clr_0, clr_s, unl_i, unl_l, unl_r, unl_n, nth_0, nth_s, sf_0, sf_s, cnd_0, cnd_1, cnd_2, cnd_3, cnd_4, cnd_5, fit_0, fit_1, fit_2, en_0, en_i, en_l, en_r, kb_t, kb_f, kb_n, sw_0, sw_s, ↓reduceIte, Nat.reduceEqDiff, Nat.left_eq_add, Nat.add_eq_left, Nat.add_left_cancel_iff, Nat.reduceAdd, Int.reduceLT, Int.reduceLE, Int.reduceAdd, Int.reduceSub, Int.reduceNeg, Int.reduceMul, Int.reduceToNat, Int.reduceEq, reduceCtorEq, true_and, and_true, true_or, or_true, and_false, false_and, or_false, false_or, not_true_eq_false, not_false_eq_true, Nat.le_refl, and_self, Sum.inl.injEq, Sum.inr.injEq, Option.some.injEq, hS_2, k_isref, pd_0, pd_s, List.cons_append, List.nil_append, Option.toList_none, Option.toList_some, tX6_takeBar, rX6_takeBar, s3, e8]
    refine ⟨rfl, s1, fun z z1 z2 z3 z4 => ?_, ?_, ⟨?_, ?_, ?_, ?_, ?_, ?_, ?_, ?_, ?_, ?_, ?_⟩, ?_, ?_⟩
    · (repeat (first | exact hS_s _ _ _ | refine (hS_n (by omega)).trans ?_)); exact s2 z z1 z2 z3 z4
    · (repeat (first | exact hS_s _ _ _ | refine (hS_n (by omega)).trans ?_))
    · (repeat (first | exact hS_s _ _ _ | refine (hS_n (by omega)).trans ?_)); exact g1
    · exact ⟨by (repeat (first | exact hS_s _ _ _ | refine (hS_n (by omega)).trans ?_)); exact gR.1, by (repeat (first | exact hS_s _ _ _ | refine (hS_n (by omega)).trans ?_)); exact gR.2.1, by (repeat (first | exact hS_s _ _ _ | refine (hS_n (by omega)).trans ?_)); exact gR.2.2⟩
    · (repeat (first | exact hS_s _ _ _ | refine (hS_n (by omega)).trans ?_)); exact g4
    · (repeat (first | exact hS_s _ _ _ | refine (hS_n (by omega)).trans ?_)); exact g5
    · (repeat (first | exact hS_s _ _ _ | refine (hS_n (by omega)).trans ?_)); exact g6
    · (repeat (first | exact hS_s _ _ _ | refine (hS_n (by omega)).trans ?_)); exact g7
    · (repeat (first | exact hS_s _ _ _ | refine (hS_n (by omega)).trans ?_))
    · (repeat (first | exact hS_s _ _ _ | refine (hS_n (by omega)).trans ?_)); exact g9
    · (repeat (first | exact hS_s _ _ _ | refine (hS_n (by omega)).trans ?_)); exact g10
    · (repeat (first | exact hS_s _ _ _ | refine (hS_n (by omega)).trans ?_)); exact g11
    · exact ⟨by (repeat (first | exact hS_s _ _ _ | refine (hS_n (by omega)).trans ?_)); exact gC.1, by (repeat (first | exact hS_s _ _ _ | refine (hS_n (by omega)).trans ?_)); exact gC.2.1, by (repeat (first | exact hS_s _ _ _ | refine (hS_n (by omega)).trans ?_)); exact gC.2.2⟩
    · (repeat (first | exact hS_s _ _ _ | refine (hS_n (by omega)).trans ?_)); exact s5
    · (repeat (first | exact hS_s _ _ _ | refine (hS_n (by omega)).trans ?_)); exact s6
  · rw [if_pos (Or.inr (by omega))]
    exact ⟨rfl, s1, s2, s3, ⟨g1, gR, g4, g5, g6, g7, g8, g9, g10, g11, gC⟩, s5, s6⟩
set_option maxRecDepth 100000 in
set_option maxHeartbeats 4000000 in
theorem e_takeClosing {mb : Int} {S : PS} (hS1 : Ps h0 h a p g r sz pn rc nw pk cl cs S) (hI : psI rc S) (hrc : rc ≤ 400) (hra : r + 2 < a) (hag : a < g) (hd : 2 ≤ d) : k_Ev x d 0 0 mX6_takeClosing [vR a, vI mb, vR g] h (PsP h0 a p g r sz pn rc nw pk cl cs (tkClose mb S)) := by
  obtain ⟨⟨o, e⟩, ⟨wc, pc⟩, ⟨wl, ws, wp, wq⟩, ⟨op, oq, pt, ob⟩, ⟨lf, sf⟩⟩ := S
  obtain ⟨s1, s2, s3, ⟨g1, gR, g4, g5, g6, g7, g8, g9, g10, g11, gC⟩, s5, s6⟩ := hS1
  obtain ⟨i1, i2, i3, i4, i5, i6, i7, i8, i9⟩ := hI
  simp only at s3 g1 gR g4 g5 g6 g7 g8 g9 g10 g11 gC s5 s6 i1 i2 i3 i4 i5 i6 i7 i8 i9
  unfold tkClose
  refine k_enp 0 (Nat.le_of_ble_eq_true rfl) (p_go [] 40 ?_)
  simp only [st_0, st_1, st_2, st_3, st_4, st_5, st_6, st_7, st_8, st_9, st_10, st_11, st_12, st_13, st_14, st_15, st_16, st_17, st_18, st_19, st_20, st_21, st_22, st_23, st_24, st_25, st_26, st_27, st_28, st_29, st_30, st_31, st_32, st_33, st_34, st_34a, st_35, st_36, st_37, st_38, st_39, st_42, st_44, st_45, st_47, st_40, st_41, st_46, st_48, st_49, st_43, go_0, go_s, cut_0, cut_s, get_0, get_s, put_0, put_1, put_s, clr_0, clr_s, unl_i, unl_l, unl_r, unl_n, nth_0, nth_s, sf_0, sf_s, cnd_0, cnd_1, cnd_2, cnd_3, cnd_4, cnd_5, fit_0, fit_1, fit_2, en_0, en_i, en_l, en_r, kb_t, kb_f, kb_n, sw_0, sw_s, ↓reduceIte, Nat.reduceEqDiff, Nat.left_eq_add, Nat.add_eq_left, Nat.add_left_cancel_iff, Nat.reduceAdd, Int.reduceLT, Int.reduceLE, Int.reduceAdd, Int.reduceSub, Int.reduceNeg, Int.reduceMul, Int.reduceToNat, Int.reduceEq, reduceCtorEq, true_and, and_true, true_or, or_true, and_false, false_and, or_false, false_or, not_true_eq_false, not_false_eq_true, Nat.le_refl, and_self, Sum.inl.injEq, Sum.inr.injEq, Option.some.injEq, hS_2, k_isref, pd_0, pd_s, List.cons_append, List.nil_append, Option.toList_none, Option.toList_some, tX6_takeClosing, rX6_takeClosing, s3]
  refine k_brI (fun c1 => ?_) (fun c1 => k_brI (fun c2 => ?_) (fun c2 => ?_))
  · rw [if_pos (Or.inl c1)]
    exact ⟨rfl, s1, s2, s3, ⟨g1, gR, g4, g5, g6, g7, g8, g9, g10, g11, gC⟩, s5, s6⟩
  · obtain ⟨k, hk⟩ : ∃ k : Nat, o = (k : Int) := ⟨o.toNat, by omega⟩
    subst hk
    have hob := i9 k (by omega)
    have eo : (if (0 ≤ ((k : Nat) : Int) ∧ ((k : Nat) : Int) < (pc : Int)) ∧ ob ((k : Nat) : Int).toNat ≠ 0 then (1 : Int) else 0) = ob k := by
      rw [Int.toNat_natCast]
      rcases hob with hb | hb
      · rw [if_neg (fun q => q.2 hb), hb]
      · rw [if_pos ⟨by omega, by omega⟩, hb]
    refine cV (d' := 1) [vI k] [] l_6_88 g1 (e_isOptional g1 g9 i4 (Nat.le_refl 1) k) (by omega) (p_go [] 40 ?_)
    rw [eo]
    simp only [st_0, st_1, st_2, st_3, st_4, st_5, st_6, st_7, st_8, st_9, st_10, st_11, st_12, st_13, st_14, st_15, st_16, st_17, st_18, st_19, st_20, st_21, st_22, st_23, st_24, st_25, st_26, st_27, st_28, st_29, st_30, st_31, st_32, st_33, st_34, st_34a, st_35, st_36, st_37, st_38, st_39, st_42, st_44, st_45, st_47, st_40, st_41, st_46, st_48, st_49, st_43, go_0, go_s, cut_0, cut_s, get_0, get_s, put_0, put_1, put_s, clr_0, clr_s, unl_i, unl_l, unl_r, unl_n, nth_0, nth_s, sf_0, sf_s, cnd_0, cnd_1, cnd_2, cnd_3, cnd_4, cnd_5, fit_0, fit_1, fit_2, en_0, en_i, en_l, en_r, kb_t, kb_f, kb_n, sw_0, sw_s, ↓reduceIte, Nat.reduceEqDiff, Nat.left_eq_add, Nat.add_eq_left, Nat.add_left_cancel_iff, Nat.reduceAdd, Int.reduceLT, Int.reduceLE, Int.reduceAdd, Int.reduceSub, Int.reduceNeg, Int.reduceMul, Int.reduceToNat, Int.reduceEq, reduceCtorEq, true_and, and_true, true_or, or_true, and_false, false_and, or_false, false_or, not_true_eq_false, not_false_eq_true, Nat.le_refl, and_self, Sum.inl.injEq, Sum.inr.injEq, Option.some.injEq, hS_2, k_isref, pd_0, pd_s, List.cons_append, List.nil_append, Option.toList_none, Option.toList_some, tX6_takeClosing, rX6_takeClosing, s3]
    refine k_brI (fun c3 => ?_) (fun c3 => ?_)
    · rw [if_neg (by rw [Int.toNat_natCast]; omega)]
      refine cV (d' := 1) [vI k] [vR a] l_6_91 g1 (e_outer g1 g6 i4 (Nat.le_refl 1) k) (by omega) (p_go [] 40 ?_)
      have eo2 : (if (0 ≤ ((k : Nat) : Int) ∧ ((k : Nat) : Int) < (pc : Int)) then op ((k : Nat) : Int).toNat else (-1 : Int)) = op k := by
        rw [Int.toNat_natCast, if_pos (by omega)]
      rw [eo2]
      simp only [st_0, st_1, st_2, st_3, st_4, st_5, st_6, st_7, st_8, st_9, st_10, st_11, st_12, st_13, st_14, st_15, st_16, st_17, st_18, st_19, st_20, st_21, st_22, st_23, st_24, st_25, st_26, st_27, st_28, st_29, st_30, st_31, st_32, st_33, st_34, st_34a, st_35, st_36, st_37, st_38, st_39, st_42, st_44, st_45, st_47, st_40, st_41, st_46, st_48, st_49, st_43, go_0, go_s, cut_0, cut_s, get_0, get_s, put_0, put_1, put_s, clr_0, clr_s, unl_i, unl_l, unl_r, unl_n, nth_0, nth_s, sf_0, sf_s, cnd_0, cnd_1, cnd_2, cnd_3, cnd_4, cnd_5, fit_0, fit_1, fit_2, en_0, en_i, en_l, en_r, kb_t, kb_f, kb_n, sw_0, sw_s, ↓reduceIte, Nat.reduceEqDiff, Nat.left_eq_add, Nat.add_eq_left, Nat.add_left_cancel_iff, Nat.reduceAdd, Int.reduceLT, Int.reduceLE, Int.reduceAdd, Int.reduceSub, Int.reduceNeg, Int.reduceMul, Int.reduceToNat, Int.reduceEq, reduceCtorEq, true_and, and_true, true_or, or_true, and_false, false_and, or_false, false_or, not_true_eq_false, not_false_eq_true, Nat.le_refl, and_self, Sum.inl.injEq, Sum.inr.injEq, Option.some.injEq, hS_2, k_isref, pd_0, pd_s, List.cons_append, List.nil_append, Option.toList_none, Option.toList_some, tX6_takeClosing, rX6_takeClosing, s3]
      rw [Int.toNat_natCast]
      refine ⟨rfl, s1, fun z z1 z2 z3 z4 => ?_, ?_, ⟨?_, ?_, ?_, ?_, ?_, ?_, ?_, ?_, ?_, ?_, ?_⟩, ?_, ?_⟩
      · (repeat (first | exact hS_s _ _ _ | refine (hS_n (by omega)).trans ?_)); exact s2 z z1 z2 z3 z4
      · (repeat (first | exact hS_s _ _ _ | refine (hS_n (by omega)).trans ?_))
      · (repeat (first | exact hS_s _ _ _ | refine (hS_n (by omega)).trans ?_)); exact g1
      · exact ⟨by (repeat (first | exact hS_s _ _ _ | refine (hS_n (by omega)).trans ?_)); exact gR.1, by (repeat (first | exact hS_s _ _ _ | refine (hS_n (by omega)).trans ?_)); exact gR.2.1, by (repeat (first | exact hS_s _ _ _ | refine (hS_n (by omega)).trans ?_)); exact gR.2.2⟩
      · (repeat (first | exact hS_s _ _ _ | refine (hS_n (by omega)).trans ?_)); exact g4
      · (repeat (first | exact hS_s _ _ _ | refine (hS_n (by omega)).trans ?_)); exact g5
      · (repeat (first | exact hS_s _ _ _ | refine (hS_n (by omega)).trans ?_)); exact g6
      · (repeat (first | exact hS_s _ _ _ | refine (hS_n (by omega)).trans ?_)); exact g7
      · (repeat (first | exact hS_s _ _ _ | refine (hS_n (by omega)).trans ?_)); exact g8
      · (repeat (first | exact hS_s _ _ _ | refine (hS_n (by omega)).trans ?_)); exact g9
      · (repeat (first | exact hS_s _ _ _ | refine (hS_n (by omega)).trans ?_)); exact g10
      · (repeat (first | exact hS_s _ _ _ | refine (hS_n (by omega)).trans ?_)); exact g11
      · exact ⟨by (repeat (first | exact hS_s _ _ _ | refine (hS_n (by omega)).trans ?_)); exact gC.1, by (repeat (first | exact hS_s _ _ _ | refine (hS_n (by omega)).trans ?_)); exact gC.2.1, by (repeat (first | exact hS_s _ _ _ | refine (hS_n (by omega)).trans ?_)); exact gC.2.2⟩
      · (repeat (first | exact hS_s _ _ _ | refine (hS_n (by omega)).trans ?_)); exact s5
      · (repeat (first | exact hS_s _ _ _ | refine (hS_n (by omega)).trans ?_)); exact s6
    · rw [if_pos (by rw [Int.toNat_natCast]; omega)]
      exact ⟨rfl, s1, s2, s3, ⟨g1, gR, g4, g5, g6, g7, g8, g9, g10, g11, gC⟩, s5, s6⟩
  · rw [if_pos (Or.inr (Or.inl (by omega)))]
    exact ⟨rfl, s1, s2, s3, ⟨g1, gR, g4, g5, g6, g7, g8, g9, g10, g11, gC⟩, s5, s6⟩
set_option maxRecDepth 100000 in
set_option maxHeartbeats 4000000 in
theorem e_takeSign {v : Int} {S : PS} (hS1 : Ps h0 h a p g r sz pn rc nw pk cl cs S) (hI : psI rc S) (hrc : rc ≤ 400) (hra : r + 2 < a) (hag : a < g) (hd : 4 ≤ d) : k_Ev x d 0 0 mX6_takeSign [vR a, vI v, vR g] h (PsP h0 a p g r sz pn rc nw pk cl cs (tkSign v S)) := by
  have hS2 := hS1
  obtain ⟨s1, s2, s3, s4, s5, s6⟩ := hS1
  unfold tkSign
  refine k_enp 0 (Nat.le_of_ble_eq_true rfl) (p_go [] 40 ?_)
  simp only [st_0, st_1, st_2, st_3, st_4, st_5, st_6, st_7, st_8, st_9, st_10, st_11, st_12, st_13, st_14, st_15, st_16, st_17, st_18, st_19, st_20, st_21, st_22, st_23, st_24, st_25, st_26, st_27, st_28, st_29, st_30, st_31, st_32, st_33, st_34, st_34a, st_35, st_36, st_37, st_38, st_39, st_42, st_44, st_45, st_47, st_40, st_41, st_46, st_48, st_49, st_43, go_0, go_s, cut_0, cut_s, get_0, get_s, put_0, put_1, put_s, clr_0, clr_s, unl_i, unl_l, unl_r, unl_n, nth_0, nth_s, sf_0, sf_s, cnd_0, cnd_1, cnd_2, cnd_3, cnd_4, cnd_5, fit_0, fit_1, fit_2, en_0, en_i, en_l, en_r, kb_t, kb_f, kb_n, sw_0, sw_s, ↓reduceIte, Nat.reduceEqDiff, Nat.left_eq_add, Nat.add_eq_left, Nat.add_left_cancel_iff, Nat.reduceAdd, Int.reduceLT, Int.reduceLE, Int.reduceAdd, Int.reduceSub, Int.reduceNeg, Int.reduceMul, Int.reduceToNat, Int.reduceEq, reduceCtorEq, true_and, and_true, true_or, or_true, and_false, false_and, or_false, false_or, not_true_eq_false, not_false_eq_true, Nat.le_refl, and_self, Sum.inl.injEq, Sum.inr.injEq, Option.some.injEq, hS_2, k_isref, pd_0, pd_s, List.cons_append, List.nil_append, Option.toList_none, Option.toList_some, tX6_takeSign, rX6_takeSign]
  refine p_lsw (by rfl) ?_
  by_cases v1 : v = 32
  · simp only [if_pos v1]
    refine p_go [] 40 ?_
    simp only [st_0, st_1, st_2, st_3, st_4, st_5, st_6, st_7, st_8, st_9, st_10, st_11, st_12, st_13, st_14, st_15, st_16, st_17, st_18, st_19, st_20, st_21, st_22, st_23, st_24, st_25, st_26, st_27, st_28, st_29, st_30, st_31, st_32, st_33, st_34, st_34a, st_35, st_36, st_37, st_38, st_39, st_42, st_44, st_45, st_47, st_40, st_41, st_46, st_48, st_49, st_43, go_0, go_s, cut_0, cut_s, get_0, get_s, put_0, put_1, put_s, clr_0, clr_s, unl_i, unl_l, unl_r, unl_n, nth_0, nth_s, sf_0, sf_s, cnd_0, cnd_1, cnd_2, cnd_3, cnd_4, cnd_5, fit_0, fit_1, fit_2, en_0, en_i, en_l, en_r, kb_t, kb_f, kb_n, sw_0, sw_s, ↓reduceIte, Nat.reduceEqDiff, Nat.left_eq_add, Nat.add_eq_left, Nat.add_left_cancel_iff, Nat.reduceAdd, Int.reduceLT, Int.reduceLE, Int.reduceAdd, Int.reduceSub, Int.reduceNeg, Int.reduceMul, Int.reduceToNat, Int.reduceEq, reduceCtorEq, true_and, and_true, true_or, or_true, and_false, false_and, or_false, false_or, not_true_eq_false, not_false_eq_true, Nat.le_refl, and_self, Sum.inl.injEq, Sum.inr.injEq, Option.some.injEq, hS_2, k_isref, pd_0, pd_s, List.cons_append, List.nil_append, Option.toList_none, Option.toList_some, tX6_takeSign, rX6_takeSign]
    exact ⟨rfl, hS2⟩
  by_cases v2 : v = 40
  · simp only [if_neg v1, if_pos v2]
    refine p_go [] 40 ?_
    simp only [st_0, st_1, st_2, st_3, st_4, st_5, st_6, st_7, st_8, st_9, st_10, st_11, st_12, st_13, st_14, st_15, st_16, st_17, st_18, st_19, st_20, st_21, st_22, st_23, st_24, st_25, st_26, st_27, st_28, st_29, st_30, st_31, st_32, st_33, st_34, st_34a, st_35, st_36, st_37, st_38, st_39, st_42, st_44, st_45, st_47, st_40, st_41, st_46, st_48, st_49, st_43, go_0, go_s, cut_0, cut_s, get_0, get_s, put_0, put_1, put_s, clr_0, clr_s, unl_i, unl_l, unl_r, unl_n, nth_0, nth_s, sf_0, sf_s, cnd_0, cnd_1, cnd_2, cnd_3, cnd_4, cnd_5, fit_0, fit_1, fit_2, en_0, en_i, en_l, en_r, kb_t, kb_f, kb_n, sw_0, sw_s, ↓reduceIte, Nat.reduceEqDiff, Nat.left_eq_add, Nat.add_eq_left, Nat.add_left_cancel_iff, Nat.reduceAdd, Int.reduceLT, Int.reduceLE, Int.reduceAdd, Int.reduceSub, Int.reduceNeg, Int.reduceMul, Int.reduceToNat, Int.reduceEq, reduceCtorEq, true_and, and_true, true_or, or_true, and_false, false_and, or_false, false_or, not_true_eq_false, not_false_eq_true, Nat.le_refl, and_self, Sum.inl.injEq, Sum.inr.injEq, Option.some.injEq, hS_2, k_isref, pd_0, pd_s, List.cons_append, List.nil_append, Option.toList_none, Option.toList_some, tX6_takeSign, rX6_takeSign]
    refine cVQ (d' := 3) [vI 0, vR g] [] l_6_69 s3 (e_takeOpening hS2 hI hrc hra hag (Nat.le_refl 3) (Or.inl rfl)) (by omega) ?_ (fun E h' q => by cases q.1)
    intro r1 h1 ⟨q1, q2⟩
    cases q1
    refine p_go [] 40 ?_
    simp only [st_0, st_1, st_2, st_3, st_4, st_5, st_6, st_7, st_8, st_9, st_10, st_11, st_12, st_13, st_14, st_15, st_16, st_17, st_18, st_19, st_20, st_21, st_22, st_23, st_24, st_25, st_26, st_27, st_28, st_29, st_30, st_31, st_32, st_33, st_34, st_34a, st_35, st_36, st_37, st_38, st_39, st_42, st_44, st_45, st_47, st_40, st_41, st_46, st_48, st_49, st_43, go_0, go_s, cut_0, cut_s, get_0, get_s, put_0, put_1, put_s, clr_0, clr_s, unl_i, unl_l, unl_r, unl_n, nth_0, nth_s, sf_0, sf_s, cnd_0, cnd_1, cnd_2, cnd_3, cnd_4, cnd_5, fit_0, fit_1, fit_2, en_0, en_i, en_l, en_r, kb_t, kb_f, kb_n, sw_0, sw_s, ↓reduceIte, Nat.reduceEqDiff, Nat.left_eq_add, Nat.add_eq_left, Nat.add_left_cancel_iff, Nat.reduceAdd, Int.reduceLT, Int.reduceLE, Int.reduceAdd, Int.reduceSub, Int.reduceNeg, Int.reduceMul, Int.reduceToNat, Int.reduceEq, reduceCtorEq, true_and, and_true, true_or, or_true, and_false, false_and, or_false, false_or, not_true_eq_false, not_false_eq_true, Nat.le_refl, and_self, Sum.inl.injEq, Sum.inr.injEq, Option.some.injEq, hS_2, k_isref, pd_0, pd_s, List.cons_append, List.nil_append, Option.toList_none, Option.toList_some, tX6_takeSign, rX6_takeSign]
    exact ⟨rfl, q2⟩
  by_cases v3 : v = 91
  · simp only [if_neg v1, if_neg v2, if_pos v3, if_neg (show ¬ v = 41 by omega)]
    refine p_go [] 40 ?_
    simp only [st_0, st_1, st_2, st_3, st_4, st_5, st_6, st_7, st_8, st_9, st_10, st_11, st_12, st_13, st_14, st_15, st_16, st_17, st_18, st_19, st_20, st_21, st_22, st_23, st_24, st_25, st_26, st_27, st_28, st_29, st_30, st_31, st_32, st_33, st_34, st_34a, st_35, st_36, st_37, st_38, st_39, st_42, st_44, st_45, st_47, st_40, st_41, st_46, st_48, st_49, st_43, go_0, go_s, cut_0, cut_s, get_0, get_s, put_0, put_1, put_s, clr_0, clr_s, unl_i, unl_l, unl_r, unl_n, nth_0, nth_s, sf_0, sf_s, cnd_0, cnd_1, cnd_2, cnd_3, cnd_4, cnd_5, fit_0, fit_1, fit_2, en_0, en_i, en_l, en_r, kb_t, kb_f, kb_n, sw_0, sw_s, ↓reduceIte, Nat.reduceEqDiff, Nat.left_eq_add, Nat.add_eq_left, Nat.add_left_cancel_iff, Nat.reduceAdd, Int.reduceLT, Int.reduceLE, Int.reduceAdd, Int.reduceSub, Int.reduceNeg, Int.reduceMul, Int.reduceToNat, Int.reduceEq, reduceCtorEq, true_and, and_true, true_or, or_true, and_false, false_and, or_false, false_or, not_true_eq_false, not_false_eq_true, Nat.le_refl, and_self, Sum.inl.injEq, Sum.inr.injEq, Option.some.injEq, hS_2, k_isref, pd_0, pd_s, List.cons_append, List.nil_append, Option.toList_none, Option.toList_some, tX6_takeSign, rX6_takeSign]
    refine cVQ (d' := 3) [vI 1, vR g] [] l_6_69 s3 (e_takeOpening hS2 hI hrc hra hag (Nat.le_refl 3) (Or.inr rfl)) (by omega) ?_ (fun E h' q => by cases q.1)
    intro r1 h1 ⟨q1, q2⟩
    cases q1
    refine p_go [] 40 ?_
    simp only [st_0, st_1, st_2, st_3, st_4, st_5, st_6, st_7, st_8, st_9, st_10, st_11, st_12, st_13, st_14, st_15, st_16, st_17, st_18, st_19, st_20, st_21, st_22, st_23, st_24, st_25, st_26, st_27, st_28, st_29, st_30, st_31, st_32, st_33, st_34, st_34a, st_35, st_36, st_37, st_38, st_39, st_42, st_44, st_45, st_47, st_40, st_41, st_46, st_48, st_49, st_43, go_0, go_s, cut_0, cut_s, get_0, get_s, put_0, put_1, put_s, clr_0, clr_s, unl_i, unl_l, unl_r, unl_n, nth_0, nth_s, sf_0, sf_s, cnd_0, cnd_1, cnd_2, cnd_3, cnd_4, cnd_5, fit_0, fit_1, fit_2, en_0, en_i, en_l, en_r, kb_t, kb_f, kb_n, sw_0, sw_s, ↓reduceIte, Nat.reduceEqDiff, Nat.left_eq_add, Nat.add_eq_left, Nat.add_left_cancel_iff, Nat.reduceAdd, Int.reduceLT, Int.reduceLE, Int.reduceAdd, Int.reduceSub, Int.reduceNeg, Int.reduceMul, Int.reduceToNat, Int.reduceEq, reduceCtorEq, true_and, and_true, true_or, or_true, and_false, false_and, or_false, false_or, not_true_eq_false, not_false_eq_true, Nat.le_refl, and_self, Sum.inl.injEq, Sum.inr.injEq, Option.some.injEq, hS_2, k_isref, pd_0, pd_s, List.cons_append, List.nil_append, Option.toList_none, Option.toList_some, tX6_takeSign, rX6_takeSign]
    exact ⟨rfl, q2⟩
  by_cases v4 : v = 124
  · simp only [if_neg v1, if_neg v2, if_neg v3, if_pos v4, if_neg (show ¬ v = 41 by omega), if_neg (show ¬ v = 93 by omega)]
    refine p_go [] 40 ?_
    simp only [st_0, st_1, st_2, st_3, st_4, st_5, st_6, st_7, st_8, st_9, st_10, st_11, st_12, st_13, st_14, st_15, st_16, st_17, st_18, st_19, st_20, st_21, st_22, st_23, st_24, st_25, st_26, st_27, st_28, st_29, st_30, st_31, st_32, st_33, st_34, st_34a, st_35, st_36, st_37, st_38, st_39, st_42, st_44, st_45, st_47, st_40, st_41, st_46, st_48, st_49, st_43, go_0, go_s, cut_0, cut_s, get_0, get_s, put_0, put_1, put_s, clr_0, clr_s, unl_i, unl_l, unl_r, unl_n, nth_0, nth_s, sf_0, sf_s, cnd_0, cnd_1, cnd_2, cnd_3, cnd_4, cnd_5, fit_0, fit_1, fit_2, en_0, en_i, en_l, en_r, kb_t, kb_f, kb_n, sw_0, sw_s, ↓reduceIte, Nat.reduceEqDiff, Nat.left_eq_add, Nat.add_eq_left, Nat.add_left_cancel_iff, Nat.reduceAdd, Int.reduceLT, Int.reduceLE, Int.reduceAdd, Int.reduceSub, Int.reduceNeg, Int.reduceMul, Int.reduceToNat, Int.reduceEq, reduceCtorEq, true_and, and_true, true_or, or_true, and_false, false_and, or_false, false_or, not_true_eq_false, not_false_eq_true, Nat.le_refl, and_self, Sum.inl.injEq, Sum.inr.injEq, Option.some.injEq, hS_2, k_isref, pd_0, pd_s, List.cons_append, List.nil_append, Option.toList_none, Option.toList_some, tX6_takeSign, rX6_takeSign]
    refine cVQ (d' := 2) [vR g] [] l_6_73 s3 (e_takeBar hS2 hI hrc hra hag (Nat.le_refl 2)) (by omega) ?_ (fun E h' q => by cases q.1)
    intro r1 h1 ⟨q1, q2⟩
    cases q1
    refine p_go [] 40 ?_
    simp only [st_0, st_1, st_2, st_3, st_4, st_5, st_6, st_7, st_8, st_9, st_10, st_11, st_12, st_13, st_14, st_15, st_16, st_17, st_18, st_19, st_20, st_21, st_22, st_23, st_24, st_25, st_26, st_27, st_28, st_29, st_30, st_31, st_32, st_33, st_34, st_34a, st_35, st_36, st_37, st_38, st_39, st_42, st_44, st_45, st_47, st_40, st_41, st_46, st_48, st_49, st_43, go_0, go_s, cut_0, cut_s, get_0, get_s, put_0, put_1, put_s, clr_0, clr_s, unl_i, unl_l, unl_r, unl_n, nth_0, nth_s, sf_0, sf_s, cnd_0, cnd_1, cnd_2, cnd_3, cnd_4, cnd_5, fit_0, fit_1, fit_2, en_0, en_i, en_l, en_r, kb_t, kb_f, kb_n, sw_0, sw_s, ↓reduceIte, Nat.reduceEqDiff, Nat.left_eq_add, Nat.add_eq_left, Nat.add_left_cancel_iff, Nat.reduceAdd, Int.reduceLT, Int.reduceLE, Int.reduceAdd, Int.reduceSub, Int.reduceNeg, Int.reduceMul, Int.reduceToNat, Int.reduceEq, reduceCtorEq, true_and, and_true, true_or, or_true, and_false, false_and, or_false, false_or, not_true_eq_false, not_false_eq_true, Nat.le_refl, and_self, Sum.inl.injEq, Sum.inr.injEq, Option.some.injEq, hS_2, k_isref, pd_0, pd_s, List.cons_append, List.nil_append, Option.toList_none, Option.toList_some, tX6_takeSign, rX6_takeSign]
    exact ⟨rfl, q2⟩
  by_cases v5 : v = 41
  · simp only [if_neg v1, if_neg v2, if_neg v3, if_neg v4, if_pos v5]
    refine p_go [] 40 ?_
    simp only [st_0, st_1, st_2, st_3, st_4, st_5, st_6, st_7, st_8, st_9, st_10, st_11, st_12, st_13, st_14, st_15, st_16, st_17, st_18, st_19, st_20, st_21, st_22, st_23, st_24, st_25, st_26, st_27, st_28, st_29, st_30, st_31, st_32, st_33, st_34, st_34a, st_35, st_36, st_37, st_38, st_39, st_42, st_44, st_45, st_47, st_40, st_41, st_46, st_48, st_49, st_43, go_0, go_s, cut_0, cut_s, get_0, get_s, put_0, put_1, put_s, clr_0, clr_s, unl_i, unl_l, unl_r, unl_n, nth_0, nth_s, sf_0, sf_s, cnd_0, cnd_1, cnd_2, cnd_3, cnd_4, cnd_5, fit_0, fit_1, fit_2, en_0, en_i, en_l, en_r, kb_t, kb_f, kb_n, sw_0, sw_s, ↓reduceIte, Nat.reduceEqDiff, Nat.left_eq_add, Nat.add_eq_left, Nat.add_left_cancel_iff, Nat.reduceAdd, Int.reduceLT, Int.reduceLE, Int.reduceAdd, Int.reduceSub, Int.reduceNeg, Int.reduceMul, Int.reduceToNat, Int.reduceEq, reduceCtorEq, true_and, and_true, true_or, or_true, and_false, false_and, or_false, false_or, not_true_eq_false, not_false_eq_true, Nat.le_refl, and_self, Sum.inl.injEq, Sum.inr.injEq, Option.some.injEq, hS_2, k_isref, pd_0, pd_s, List.cons_append, List.nil_append, Option.toList_none, Option.toList_some, tX6_takeSign, rX6_takeSign]
    refine cVQ (d' := 2) [vI 0, vR g] [] l_6_77 s3 (e_takeClosing hS2 hI hrc hra hag (Nat.le_refl 2)) (by omega) ?_ (fun E h' q => by cases q.1)
    intro r1 h1 ⟨q1, q2⟩
    cases q1
    refine p_go [] 40 ?_
    simp only [st_0, st_1, st_2, st_3, st_4, st_5, st_6, st_7, st_8, st_9, st_10, st_11, st_12, st_13, st_14, st_15, st_16, st_17, st_18, st_19, st_20, st_21, st_22, st_23, st_24, st_25, st_26, st_27, st_28, st_29, st_30, st_31, st_32, st_33, st_34, st_34a, st_35, st_36, st_37, st_38, st_39, st_42, st_44, st_45, st_47, st_40, st_41, st_46, st_48, st_49, st_43, go_0, go_s, cut_0, cut_s, get_0, get_s, put_0, put_1, put_s, clr_0, clr_s, unl_i, unl_l, unl_r, unl_n, nth_0, nth_s, sf_0, sf_s, cnd_0, cnd_1, cnd_2, cnd_3, cnd_4, cnd_5, fit_0, fit_1, fit_2, en_0, en_i, en_l, en_r, kb_t, kb_f, kb_n, sw_0, sw_s, ↓reduceIte, Nat.reduceEqDiff, Nat.left_eq_add, Nat.add_eq_left, Nat.add_left_cancel_iff, Nat.reduceAdd, Int.reduceLT, Int.reduceLE, Int.reduceAdd, Int.reduceSub, Int.reduceNeg, Int.reduceMul, Int.reduceToNat, Int.reduceEq, reduceCtorEq, true_and, and_true, true_or, or_true, and_false, false_and, or_false, false_or, not_true_eq_false, not_false_eq_true, Nat.le_refl, and_self, Sum.inl.injEq, Sum.inr.injEq, Option.some.injEq, hS_2, k_isref, pd_0, pd_s, List.cons_append, List.nil_append, Option.toList_none, Option.toList_some, tX6_takeSign, rX6_takeSign]
    exact ⟨rfl, q2⟩
  by_cases v6 : v = 93
  · simp only [if_neg v1, if_neg v2, if_neg v3, if_neg v4, if_neg v5, if_pos v6]
    refine p_go [] 40 ?_
    simp only [st_0, st_1, st_2, st_3, st_4, st_5, st_6, st_7, st_8, st_9, st_10, st_11, st_12, st_13, st_14, st_15, st_16, st_17, st_18, st_19, st_20, st_21, st_22, st_23, st_24, st_25, st_26, st_27, st_28, st_29, st_30, st_31, st_32, st_33, st_34, st_34a, st_35, st_36, st_37, st_38, st_39, st_42, st_44, st_45, st_47, st_40, st_41, st_46, st_48, st_49, st_43, go_0, go_s, cut_0, cut_s, get_0, get_s, put_0, put_1, put_s, clr_0, clr_s, unl_i, unl_l, unl_r, unl_n, nth_0, nth_s, sf_0, sf_s, cnd_0, cnd_1, cnd_2, cnd_3, cnd_4, cnd_5, fit_0, fit_1, fit_2, en_0, en_i, en_l, en_r, kb_t, kb_f, kb_n, sw_0, sw_s, ↓reduceIte, Nat.reduceEqDiff, Nat.left_eq_add, Nat.add_eq_left, Nat.add_left_cancel_iff, Nat.reduceAdd, Int.reduceLT, Int.reduceLE, Int.reduceAdd, Int.reduceSub, Int.reduceNeg, Int.reduceMul, Int.reduceToNat, Int.reduceEq, reduceCtorEq, true_and, and_true, true_or, or_true, and_false, false_and, or_false, false_or, not_true_eq_false, not_false_eq_true, Nat.le_refl, and_self, Sum.inl.injEq, Sum.inr.injEq, Option.some.injEq, hS_2, k_isref, pd_0, pd_s, List.cons_append, List.nil_append, Option.toList_none, Option.toList_some, tX6_takeSign, rX6_takeSign]
    refine cVQ (d' := 2) [vI 1, vR g] [] l_6_77 s3 (e_takeClosing hS2 hI hrc hra hag (Nat.le_refl 2)) (by omega) ?_ (fun E h' q => by cases q.1)
    intro r1 h1 ⟨q1, q2⟩
    cases q1
    refine p_go [] 40 ?_
    simp only [st_0, st_1, st_2, st_3, st_4, st_5, st_6, st_7, st_8, st_9, st_10, st_11, st_12, st_13, st_14, st_15, st_16, st_17, st_18, st_19, st_20, st_21, st_22, st_23, st_24, st_25, st_26, st_27, st_28, st_29, st_30, st_31, st_32, st_33, st_34, st_34a, st_35, st_36, st_37, st_38, st_39, st_42, st_44, st_45, st_47, st_40, st_41, st_46, st_48, st_49, st_43, go_0, go_s, cut_0, cut_s, get_0, get_s, put_0, put_1, put_s, clr_0, clr_s, unl_i, unl_l, unl_r, unl_n, nth_0, nth_s, sf_0, sf_s, cnd_0, cnd_1, cnd_2, cnd_3, cnd_4, cnd_5, fit_0, fit_1, fit_2, en_0, en_i, en_l, en_r, kb_t, kb_f, kb_n, sw_0, sw_s, ↓reduceIte, Nat.reduceEqDiff, Nat.left_eq_add, Nat.add_eq_left, Nat.add_left_cancel_iff, Nat.reduceAdd, Int.reduceLT, Int.reduceLE, Int.reduceAdd, Int.reduceSub, Int.reduceNeg, Int.reduceMul, Int.reduceToNat, Int.reduceEq, reduceCtorEq, true_and, and_true, true_or, or_true, and_false, false_and, or_false, false_or, not_true_eq_false, not_false_eq_true, Nat.le_refl, and_self, Sum.inl.injEq, Sum.inr.injEq, Option.some.injEq, hS_2, k_isref, pd_0, pd_s, List.cons_append, List.nil_append, Option.toList_none, Option.toList_some, tX6_takeSign, rX6_takeSign]
    exact ⟨rfl, q2⟩
  simp only [if_neg v1, if_neg v2, if_neg v3, if_neg v4, if_neg v5, if_neg v6]
  refine p_go [] 40 ?_
  simp only [st_0, st_1, st_2, st_3, st_4, st_5, st_6, st_7, st_8, st_9, st_10, st_11, st_12, st_13, st_14, st_15, st_16, st_17, st_18, st_19, st_20, st_21, st_22, st_23, st_24, st_25, st_26, st_27, st_28, st_29, st_30, st_31, st_32, st_33, st_34, st_34a, st_35, st_36, st_37, st_38, st_39, st_42, st_44, st_45, st_47, st_40, st_41, st_46, st_48, st_49, st_43, go_0, go_s, cut_0, cut_s, get_0, get_s, put_0, put_1, put_s, clr_0, clr_s, unl_i, unl_l, unl_r, unl_n, nth_0, nth_s, sf_0, sf_s, cnd_0, cnd_1, cnd_2, cnd_3, cnd_4, cnd_5, fit_0, fit_1, fit_2, en_0, en_i, en_l, en_r, kb_t, kb_f, kb_n, sw_0, sw_s, ↓reduceIte, Nat.reduceEqDiff, Nat.left_eq_add, Nat.add_eq_left, Nat.add_left_cancel_iff, Nat.reduceAdd, Int.reduceLT, Int.reduceLE, Int.reduceAdd, Int.reduceSub, Int.reduceNeg, Int.reduceMul, Int.reduceToNat, Int.reduceEq, reduceCtorEq, true_and, and_true, true_or, or_true, and_false, false_and, or_false, false_or, not_true_eq_false, not_false_eq_true, Nat.le_refl, and_self, Sum.inl.injEq, Sum.inr.injEq, Option.some.injEq, hS_2, k_isref, pd_0, pd_s, List.cons_append, List.nil_append, Option.toList_none, Option.toList_some, tX6_takeSign, rX6_takeSign]
  exact ⟨rfl, hS2⟩
end Sign34
