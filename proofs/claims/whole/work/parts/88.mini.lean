/-! the reference's constructor -/
def mLen : List (Nat × Nat) := [(0, 289), (0, 289), (0, 1681), (0, 40), (1, 400), (0, 240), (0, 60), (0, 180), (0, 60), (0, 400), (0, 40), (0, 800), (0, 40), (0, 40), (0, 400), (0, 20), (0, 20), (0, 20), (0, 8), (0, 8), (0, 8), (2, 8), (0, 960), (0, 4800), (0, 120), (0, 960), (0, 8), (0, 640), (0, 32), (0, 8), (0, 1024), (0, 8), (0, 8)]
/-- the reference's arrays at the start, by address -/
def mAr (z : Nat) : PC := match mLen[z - 58]? with
  | some (k, n) => .inl (k, n, Z_)
  | none => .inl (0, 0, Z_)
/-- the reference's numbers at the start -/
abbrev mI0 : F_ := mS (mS Z_ 34 (-1)) 45 (-1)
section Mini88
variable {d : Nat} {h : PH}
set_option maxRecDepth 100000 in
set_option maxHeartbeats 4000000 in
theorem w_iMod {K N k n : Nat} {P : PO → PH → Prop} (h1 : h.2 57 = some (mO mI0)) (hk : k ≤ K) (hn : n ≤ N) (kk : P rV (hS h 58 (cI 289 c0_))) : ∀ (j i : Nat) (f : F_), i + j = 289 → (∀ u, u < i → f u = c0_ u) →
    k_Wp true d K N mX12_init P k n 294 [some (vR 57), some (vI i)] [] (hS h 58 (cI 289 f)) := by
  intro j
  induction j with
  | zero =>
    intro i f hi hf
    have e1 : (289 : Int) ≤ i := by omega
    refine p_eqA c0_ (hS_s _ _ _) (by decide) (fun u hu => hf u (by omega)) ?_
    rw [hS_hS]
    refine p_go [] 40 ?_
    simp only [st_0, st_1, st_2, st_3, st_4, st_5, st_6, st_7, st_8, st_9, st_10, st_11, st_12, st_13, st_14, st_15, st_16, st_17, st_18, st_19, st_20, st_21, st_22, st_23, st_24, st_25, st_26, st_27, st_28, st_29, st_30, st_31, st_32, st_33, st_34, st_34a, st_35, st_36, st_37, st_38, st_39, st_42, st_44, st_45, st_47, st_40, st_41, st_46, st_48, st_49, st_43, go_0, go_s, cut_0, cut_s, get_0, get_s, put_0, put_1, put_s, clr_0, clr_s, unl_i, unl_l, unl_r, unl_n, nth_0, nth_s, sf_0, sf_s, cnd_0, cnd_1, cnd_2, cnd_3, cnd_4, cnd_5, fit_0, fit_1, fit_2, en_0, en_i, en_l, en_r, kb_t, kb_f, kb_n, sw_0, sw_s, ↓reduceIte, Nat.reduceEqDiff, Nat.left_eq_add, Nat.add_eq_left, Nat.add_left_cancel_iff, Nat.reduceAdd, Int.reduceLT, Int.reduceLE, Int.reduceAdd, Int.reduceSub, Int.reduceNeg, Int.reduceMul, Int.reduceToNat, Int.reduceEq, reduceCtorEq, true_and, and_true, true_or, or_true, and_false, false_and, or_false, false_or, not_true_eq_false, not_false_eq_true, Nat.le_refl, and_self, Sum.inl.injEq, Sum.inr.injEq, Option.some.injEq, hS_2, k_isref, pd_0, pd_s, List.cons_append, List.nil_append, Option.toList_none, Option.toList_some, tX12_init, rX12_init, e1]
    exact ⟨⟨hk, hn⟩, kk⟩
  | succ j ih =>
    intro i f hi hf
    have e1 : ¬ (289 : Int) ≤ i := by omega
    have e2 : (i : Int) / 17 = ((i / 17 : Nat) : Int) := by omega
    have e3 : (i : Int) % 17 = ((i % 17 : Nat) : Int) := by omega
    have hnx := ih (i + 1) (fS f i (c0_ i)) (by omega) (fun u hu => by
      by_cases e : u = i
      · subst e; rw [fS_s]
      · rw [fS_n e]; exact hf u (by omega))
    refine p_go [294] 40 ?_
    unfold c0_ at hnx
    by_cases hc : i / 17 = i % 17
    · rw [if_pos hc] at hnx
      have e4 : (((i / 17 : Nat) : Int) = ((i % 17 : Nat) : Int)) = True := eq_true (by omega)
      simp only [st_0, st_1, st_2, st_3, st_4, st_5, st_6, st_7, st_8, st_9, st_10, st_11, st_12, st_13, st_14, st_15, st_16, st_17, st_18, st_19, st_20, st_21, st_22, st_23, st_24, st_25, st_26, st_27, st_28, st_29, st_30, st_31, st_32, st_33, st_34, st_34a, st_35, st_36, st_37, st_38, st_39, st_42, st_44, st_45, st_47, st_40, st_41, st_46, st_48, st_49, st_43, go_0, go_s, cut_0, cut_s, get_0, get_s, put_0, put_1, put_s, clr_0, clr_s, unl_i, unl_l, unl_r, unl_n, nth_0, nth_s, sf_0, sf_s, cnd_0, cnd_1, cnd_2, cnd_3, cnd_4, cnd_5, fit_0, fit_1, fit_2, en_0, en_i, en_l, en_r, kb_t, kb_f, kb_n, sw_0, sw_s, ↓reduceIte, Nat.reduceEqDiff, Nat.left_eq_add, Nat.add_eq_left, Nat.add_left_cancel_iff, Nat.reduceAdd, Int.reduceLT, Int.reduceLE, Int.reduceAdd, Int.reduceSub, Int.reduceNeg, Int.reduceMul, Int.reduceToNat, Int.reduceEq, reduceCtorEq, true_and, and_true, true_or, or_true, and_false, false_and, or_false, false_or, not_true_eq_false, not_false_eq_true, Nat.le_refl, and_self, Sum.inl.injEq, Sum.inr.injEq, Option.some.injEq, hS_2, k_isref, pd_0, pd_s, List.cons_append, List.nil_append, Option.toList_none, Option.toList_some, tX12_init, rX12_init, h1, e1, e2, e3, e4, nat1, hS_hS, Int.toNat_natCast]
      (repeat (first | exact hnx | refine ⟨⟨by omega, by omega⟩, ?_⟩ | refine And.intro (by omega) ?_))
    · rw [if_neg hc] at hnx
      have e4 : (((i / 17 : Nat) : Int) = ((i % 17 : Nat) : Int)) = False := eq_false (by omega)
      simp only [st_0, st_1, st_2, st_3, st_4, st_5, st_6, st_7, st_8, st_9, st_10, st_11, st_12, st_13, st_14, st_15, st_16, st_17, st_18, st_19, st_20, st_21, st_22, st_23, st_24, st_25, st_26, st_27, st_28, st_29, st_30, st_31, st_32, st_33, st_34, st_34a, st_35, st_36, st_37, st_38, st_39, st_42, st_44, st_45, st_47, st_40, st_41, st_46, st_48, st_49, st_43, go_0, go_s, cut_0, cut_s, get_0, get_s, put_0, put_1, put_s, clr_0, clr_s, unl_i, unl_l, unl_r, unl_n, nth_0, nth_s, sf_0, sf_s, cnd_0, cnd_1, cnd_2, cnd_3, cnd_4, cnd_5, fit_0, fit_1, fit_2, en_0, en_i, en_l, en_r, kb_t, kb_f, kb_n, sw_0, sw_s, ↓reduceIte, Nat.reduceEqDiff, Nat.left_eq_add, Nat.add_eq_left, Nat.add_left_cancel_iff, Nat.reduceAdd, Int.reduceLT, Int.reduceLE, Int.reduceAdd, Int.reduceSub, Int.reduceNeg, Int.reduceMul, Int.reduceToNat, Int.reduceEq, reduceCtorEq, true_and, and_true, true_or, or_true, and_false, false_and, or_false, false_or, not_true_eq_false, not_false_eq_true, Nat.le_refl, and_self, Sum.inl.injEq, Sum.inr.injEq, Option.some.injEq, hS_2, k_isref, pd_0, pd_s, List.cons_append, List.nil_append, Option.toList_none, Option.toList_some, tX12_init, rX12_init, h1, e1, e2, e3, e4, nat1, hS_hS, Int.toNat_natCast]
      (repeat (first | exact hnx | refine ⟨⟨by omega, by omega⟩, ?_⟩ | refine And.intro (by omega) ?_))
set_option maxRecDepth 100000 in
set_option maxHeartbeats 4000000 in
theorem e_iMod (hq : h.1 = 58) (h1 : h.2 57 = some (cO 12 (k_df 12))) (hd : 1 ≤ d) : k_Ev true d 33 13619 mX12_init [vR 57] h (fun o h' => o = rV ∧ h'.1 = 91 ∧ (∀ z, z < 57 → h'.2 z = h.2 z) ∧ h'.2 57 = some (mO mI0) ∧ h'.2 58 = some (cI 289 c0_) ∧ ∀ z, 58 < z → z < 91 → h'.2 z = some (mAr z)) := by
  refine k_enp 1 (Nat.le_of_ble_eq_true rfl) (p_go [] 40 ?_)
  have h1 : h.2 57 = some (cO 12 [vI 0, vN, vN, vI 0, vN, vN, vI 0, vN, vI 0, vI 0, vN, vN, vN, vN, vI 0, vN, vN, vN, vN, vI 0, vN, vI 0, vN, vN, vN, vN, vN, vN, vN, vN, vI 0, vI 0, vI 0, vI 0, vI 0, vI 0, vI 0, vN, vN, vN, vN, vN, vI 0, vI 0, vI 0, vI 0, vI 0, vI 0, vI 0, vN, vN, vN, vI 0, vN, vN, vN]) := h1
  simp only [st_0, st_1, st_2, st_3, st_4, st_5, st_6, st_7, st_8, st_9, st_10, st_11, st_12, st_13, st_14, st_15, st_16, st_17, st_18, st_19, st_20, st_21, st_22, st_23, st_24, st_25, st_26, st_27, st_28, st_29, st_30, st_31, st_32, st_33, st_34, st_34a, st_35, st_36, st_37, st_38, st_39, st_42, st_44, st_45, st_47, st_40, st_41, st_46, st_48, st_49, st_43, go_0, go_s, cut_0, cut_s, get_0, get_s, put_0, put_1, put_s, clr_0, clr_s, unl_i, unl_l, unl_r, unl_n, nth_0, nth_s, sf_0, sf_s, cnd_0, cnd_1, cnd_2, cnd_3, cnd_4, cnd_5, fit_0, fit_1, fit_2, en_0, en_i, en_l, en_r, kb_t, kb_f, kb_n, sw_0, sw_s, ↓reduceIte, Nat.reduceEqDiff, Nat.left_eq_add, Nat.add_eq_left, Nat.add_left_cancel_iff, Nat.reduceAdd, Int.reduceLT, Int.reduceLE, Int.reduceAdd, Int.reduceSub, Int.reduceNeg, Int.reduceMul, Int.reduceToNat, Int.reduceEq, reduceCtorEq, true_and, and_true, true_or, or_true, and_false, false_and, or_false, false_or, not_true_eq_false, not_false_eq_true, Nat.le_refl, and_self, Sum.inl.injEq, Sum.inr.injEq, Option.some.injEq, hS_2, k_isref, pd_0, pd_s, List.cons_append, List.nil_append, Option.toList_none, Option.toList_some, tX12_init, rX12_init, h1]
  refine ⟨⟨hd, by decide⟩, ?_⟩
  refine p_nwa 58 289 0 hq (by omega) (by decide) (fun g0 a0 b0 c0 => p_go [] 80 ?_)
  have u0 := (c0 57 (by decide)).trans h1
  have A0 : ∀ z, 57 < z → z < 59 → g0.2 z = some (mAr z) := fun z z1 z2 => by rw [show z = 58 by omega]; exact b0
  have Z0 : ∀ z, z < 57 → g0.2 z = h.2 z := fun z hz => c0 z (by omega)
  clear b0 c0
  simp only [st_0, st_1, st_2, st_3, st_4, st_5, st_6, st_7, st_8, st_9, st_10, st_11, st_12, st_13, st_14, st_15, st_16, st_17, st_18, st_19, st_20, st_21, st_22, st_23, st_24, st_25, st_26, st_27, st_28, st_29, st_30, st_31, st_32, st_33, st_34, st_34a, st_35, st_36, st_37, st_38, st_39, st_42, st_44, st_45, st_47, st_40, st_41, st_46, st_48, st_49, st_43, go_0, go_s, cut_0, cut_s, get_0, get_s, put_0, put_1, put_s, clr_0, clr_s, unl_i, unl_l, unl_r, unl_n, nth_0, nth_s, sf_0, sf_s, cnd_0, cnd_1, cnd_2, cnd_3, cnd_4, cnd_5, fit_0, fit_1, fit_2, en_0, en_i, en_l, en_r, kb_t, kb_f, kb_n, sw_0, sw_s, ↓reduceIte, Nat.reduceEqDiff, Nat.left_eq_add, Nat.add_eq_left, Nat.add_left_cancel_iff, Nat.reduceAdd, Int.reduceLT, Int.reduceLE, Int.reduceAdd, Int.reduceSub, Int.reduceNeg, Int.reduceMul, Int.reduceToNat, Int.reduceEq, reduceCtorEq, true_and, and_true, true_or, or_true, and_false, false_and, or_false, false_or, not_true_eq_false, not_false_eq_true, Nat.le_refl, and_self, Sum.inl.injEq, Sum.inr.injEq, Option.some.injEq, hS_2, k_isref, pd_0, pd_s, List.cons_append, List.nil_append, Option.toList_none, Option.toList_some, tX12_init, rX12_init, u0, hS_hS]
  refine p_nwa 59 289 0 a0 (by omega) (by decide) (fun g1 a1 b1 c1 => p_go [] 80 ?_)
  have u1 := (c1 57 (by decide)).trans (hS_s g0 57 _)
  have A1 : ∀ z, 57 < z → z < 60 → g1.2 z = some (mAr z) := fun z z1 z2 => by
    by_cases e : z = 59
    · rw [e]; exact b1
    · exact (c1 z e).trans ((hS_n (by omega)).trans (A0 z z1 (by omega)))
  have Z1 : ∀ z, z < 57 → g1.2 z = h.2 z := fun z hz => (c1 z (by omega)).trans ((hS_n (by omega)).trans (Z0 z hz))
  clear b1 c1 A0 Z0 u0
  simp only [st_0, st_1, st_2, st_3, st_4, st_5, st_6, st_7, st_8, st_9, st_10, st_11, st_12, st_13, st_14, st_15, st_16, st_17, st_18, st_19, st_20, st_21, st_22, st_23, st_24, st_25, st_26, st_27, st_28, st_29, st_30, st_31, st_32, st_33, st_34, st_34a, st_35, st_36, st_37, st_38, st_39, st_42, st_44, st_45, st_47, st_40, st_41, st_46, st_48, st_49, st_43, go_0, go_s, cut_0, cut_s, get_0, get_s, put_0, put_1, put_s, clr_0, clr_s, unl_i, unl_l, unl_r, unl_n, nth_0, nth_s, sf_0, sf_s, cnd_0, cnd_1, cnd_2, cnd_3, cnd_4, cnd_5, fit_0, fit_1, fit_2, en_0, en_i, en_l, en_r, kb_t, kb_f, kb_n, sw_0, sw_s, ↓reduceIte, Nat.reduceEqDiff, Nat.left_eq_add, Nat.add_eq_left, Nat.add_left_cancel_iff, Nat.reduceAdd, Int.reduceLT, Int.reduceLE, Int.reduceAdd, Int.reduceSub, Int.reduceNeg, Int.reduceMul, Int.reduceToNat, Int.reduceEq, reduceCtorEq, true_and, and_true, true_or, or_true, and_false, false_and, or_false, false_or, not_true_eq_false, not_false_eq_true, Nat.le_refl, and_self, Sum.inl.injEq, Sum.inr.injEq, Option.some.injEq, hS_2, k_isref, pd_0, pd_s, List.cons_append, List.nil_append, Option.toList_none, Option.toList_some, tX12_init, rX12_init, u1, hS_hS]
  refine p_nwa 60 1681 0 a1 (by omega) (by decide) (fun g2 a2 b2 c2 => p_go [] 80 ?_)
  have u2 := (c2 57 (by decide)).trans (hS_s g1 57 _)
  have A2 : ∀ z, 57 < z → z < 61 → g2.2 z = some (mAr z) := fun z z1 z2 => by
    by_cases e : z = 60
    · rw [e]; exact b2
    · exact (c2 z e).trans ((hS_n (by omega)).trans (A1 z z1 (by omega)))
  have Z2 : ∀ z, z < 57 → g2.2 z = h.2 z := fun z hz => (c2 z (by omega)).trans ((hS_n (by omega)).trans (Z1 z hz))
  clear b2 c2 A1 Z1 u1
  simp only [st_0, st_1, st_2, st_3, st_4, st_5, st_6, st_7, st_8, st_9, st_10, st_11, st_12, st_13, st_14, st_15, st_16, st_17, st_18, st_19, st_20, st_21, st_22, st_23, st_24, st_25, st_26, st_27, st_28, st_29, st_30, st_31, st_32, st_33, st_34, st_34a, st_35, st_36, st_37, st_38, st_39, st_42, st_44, st_45, st_47, st_40, st_41, st_46, st_48, st_49, st_43, go_0, go_s, cut_0, cut_s, get_0, get_s, put_0, put_1, put_s, clr_0, clr_s, unl_i, unl_l, unl_r, unl_n, nth_0, nth_s, sf_0, sf_s, cnd_0, cnd_1, cnd_2, cnd_3, cnd_4, cnd_5, fit_0, fit_1, fit_2, en_0, en_i, en_l, en_r, kb_t, kb_f, kb_n, sw_0, sw_s, ↓reduceIte, Nat.reduceEqDiff, Nat.left_eq_add, Nat.add_eq_left, Nat.add_left_cancel_iff, Nat.reduceAdd, Int.reduceLT, Int.reduceLE, Int.reduceAdd, Int.reduceSub, Int.reduceNeg, Int.reduceMul, Int.reduceToNat, Int.reduceEq, reduceCtorEq, true_and, and_true, true_or, or_true, and_false, false_and, or_false, false_or, not_true_eq_false, not_false_eq_true, Nat.le_refl, and_self, Sum.inl.injEq, Sum.inr.injEq, Option.some.injEq, hS_2, k_isref, pd_0, pd_s, List.cons_append, List.nil_append, Option.toList_none, Option.toList_some, tX12_init, rX12_init, u2, hS_hS]
  refine p_nwa 61 40 0 a2 (by omega) (by decide) (fun g3 a3 b3 c3 => p_go [] 80 ?_)
  have u3 := (c3 57 (by decide)).trans (hS_s g2 57 _)
  have A3 : ∀ z, 57 < z → z < 62 → g3.2 z = some (mAr z) := fun z z1 z2 => by
    by_cases e : z = 61
    · rw [e]; exact b3
    · exact (c3 z e).trans ((hS_n (by omega)).trans (A2 z z1 (by omega)))
  have Z3 : ∀ z, z < 57 → g3.2 z = h.2 z := fun z hz => (c3 z (by omega)).trans ((hS_n (by omega)).trans (Z2 z hz))
  clear b3 c3 A2 Z2 u2
  simp only [st_0, st_1, st_2, st_3, st_4, st_5, st_6, st_7, st_8, st_9, st_10, st_11, st_12, st_13, st_14, st_15, st_16, st_17, st_18, st_19, st_20, st_21, st_22, st_23, st_24, st_25, st_26, st_27, st_28, st_29, st_30, st_31, st_32, st_33, st_34, st_34a, st_35, st_36, st_37, st_38, st_39, st_42, st_44, st_45, st_47, st_40, st_41, st_46, st_48, st_49, st_43, go_0, go_s, cut_0, cut_s, get_0, get_s, put_0, put_1, put_s, clr_0, clr_s, unl_i, unl_l, unl_r, unl_n, nth_0, nth_s, sf_0, sf_s, cnd_0, cnd_1, cnd_2, cnd_3, cnd_4, cnd_5, fit_0, fit_1, fit_2, en_0, en_i, en_l, en_r, kb_t, kb_f, kb_n, sw_0, sw_s, ↓reduceIte, Nat.reduceEqDiff, Nat.left_eq_add, Nat.add_eq_left, Nat.add_left_cancel_iff, Nat.reduceAdd, Int.reduceLT, Int.reduceLE, Int.reduceAdd, Int.reduceSub, Int.reduceNeg, Int.reduceMul, Int.reduceToNat, Int.reduceEq, reduceCtorEq, true_and, and_true, true_or, or_true, and_false, false_and, or_false, false_or, not_true_eq_false, not_false_eq_true, Nat.le_refl, and_self, Sum.inl.injEq, Sum.inr.injEq, Option.some.injEq, hS_2, k_isref, pd_0, pd_s, List.cons_append, List.nil_append, Option.toList_none, Option.toList_some, tX12_init, rX12_init, u3, hS_hS]
  refine p_nwa 62 400 1 a3 (by omega) (by decide) (fun g4 a4 b4 c4 => p_go [] 80 ?_)
  have u4 := (c4 57 (by decide)).trans (hS_s g3 57 _)
  have A4 : ∀ z, 57 < z → z < 63 → g4.2 z = some (mAr z) := fun z z1 z2 => by
    by_cases e : z = 62
    · rw [e]; exact b4
    · exact (c4 z e).trans ((hS_n (by omega)).trans (A3 z z1 (by omega)))
  have Z4 : ∀ z, z < 57 → g4.2 z = h.2 z := fun z hz => (c4 z (by omega)).trans ((hS_n (by omega)).trans (Z3 z hz))
  clear b4 c4 A3 Z3 u3
  simp only [st_0, st_1, st_2, st_3, st_4, st_5, st_6, st_7, st_8, st_9, st_10, st_11, st_12, st_13, st_14, st_15, st_16, st_17, st_18, st_19, st_20, st_21, st_22, st_23, st_24, st_25, st_26, st_27, st_28, st_29, st_30, st_31, st_32, st_33, st_34, st_34a, st_35, st_36, st_37, st_38, st_39, st_42, st_44, st_45, st_47, st_40, st_41, st_46, st_48, st_49, st_43, go_0, go_s, cut_0, cut_s, get_0, get_s, put_0, put_1, put_s, clr_0, clr_s, unl_i, unl_l, unl_r, unl_n, nth_0, nth_s, sf_0, sf_s, cnd_0, cnd_1, cnd_2, cnd_3, cnd_4, cnd_5, fit_0, fit_1, fit_2, en_0, en_i, en_l, en_r, kb_t, kb_f, kb_n, sw_0, sw_s, ↓reduceIte, Nat.reduceEqDiff, Nat.left_eq_add, Nat.add_eq_left, Nat.add_left_cancel_iff, Nat.reduceAdd, Int.reduceLT, Int.reduceLE, Int.reduceAdd, Int.reduceSub, Int.reduceNeg, Int.reduceMul, Int.reduceToNat, Int.reduceEq, reduceCtorEq, true_and, and_true, true_or, or_true, and_false, false_and, or_false, false_or, not_true_eq_false, not_false_eq_true, Nat.le_refl, and_self, Sum.inl.injEq, Sum.inr.injEq, Option.some.injEq, hS_2, k_isref, pd_0, pd_s, List.cons_append, List.nil_append, Option.toList_none, Option.toList_some, tX12_init, rX12_init, u4, hS_hS]
  refine p_nwa 63 240 0 a4 (by omega) (by decide) (fun g5 a5 b5 c5 => p_go [] 80 ?_)
  have u5 := (c5 57 (by decide)).trans (hS_s g4 57 _)
  have A5 : ∀ z, 57 < z → z < 64 → g5.2 z = some (mAr z) := fun z z1 z2 => by
    by_cases e : z = 63
    · rw [e]; exact b5
    · exact (c5 z e).trans ((hS_n (by omega)).trans (A4 z z1 (by omega)))
  have Z5 : ∀ z, z < 57 → g5.2 z = h.2 z := fun z hz => (c5 z (by omega)).trans ((hS_n (by omega)).trans (Z4 z hz))
  clear b5 c5 A4 Z4 u4
  simp only [st_0, st_1, st_2, st_3, st_4, st_5, st_6, st_7, st_8, st_9, st_10, st_11, st_12, st_13, st_14, st_15, st_16, st_17, st_18, st_19, st_20, st_21, st_22, st_23, st_24, st_25, st_26, st_27, st_28, st_29, st_30, st_31, st_32, st_33, st_34, st_34a, st_35, st_36, st_37, st_38, st_39, st_42, st_44, st_45, st_47, st_40, st_41, st_46, st_48, st_49, st_43, go_0, go_s, cut_0, cut_s, get_0, get_s, put_0, put_1, put_s, clr_0, clr_s, unl_i, unl_l, unl_r, unl_n, nth_0, nth_s, sf_0, sf_s, cnd_0, cnd_1, cnd_2, cnd_3, cnd_4, cnd_5, fit_0, fit_1, fit_2, en_0, en_i, en_l, en_r, kb_t, kb_f, kb_n, sw_0, sw_s, ↓reduceIte, Nat.reduceEqDiff, Nat.left_eq_add, Nat.add_eq_left, Nat.add_left_cancel_iff, Nat.reduceAdd, Int.reduceLT, Int.reduceLE, Int.reduceAdd, Int.reduceSub, Int.reduceNeg, Int.reduceMul, Int.reduceToNat, Int.reduceEq, reduceCtorEq, true_and, and_true, true_or, or_true, and_false, false_and, or_false, false_or, not_true_eq_false, not_false_eq_true, Nat.le_refl, and_self, Sum.inl.injEq, Sum.inr.injEq, Option.some.injEq, hS_2, k_isref, pd_0, pd_s, List.cons_append, List.nil_append, Option.toList_none, Option.toList_some, tX12_init, rX12_init, u5, hS_hS]
  refine p_nwa 64 60 0 a5 (by omega) (by decide) (fun g6 a6 b6 c6 => p_go [] 80 ?_)
  have u6 := (c6 57 (by decide)).trans (hS_s g5 57 _)
  have A6 : ∀ z, 57 < z → z < 65 → g6.2 z = some (mAr z) := fun z z1 z2 => by
    by_cases e : z = 64
    · rw [e]; exact b6
    · exact (c6 z e).trans ((hS_n (by omega)).trans (A5 z z1 (by omega)))
  have Z6 : ∀ z, z < 57 → g6.2 z = h.2 z := fun z hz => (c6 z (by omega)).trans ((hS_n (by omega)).trans (Z5 z hz))
  clear b6 c6 A5 Z5 u5
  simp only [st_0, st_1, st_2, st_3, st_4, st_5, st_6, st_7, st_8, st_9, st_10, st_11, st_12, st_13, st_14, st_15, st_16, st_17, st_18, st_19, st_20, st_21, st_22, st_23, st_24, st_25, st_26, st_27, st_28, st_29, st_30, st_31, st_32, st_33, st_34, st_34a, st_35, st_36, st_37, st_38, st_39, st_42, st_44, st_45, st_47, st_40, st_41, st_46, st_48, st_49, st_43, go_0, go_s, cut_0, cut_s, get_0, get_s, put_0, put_1, put_s, clr_0, clr_s, unl_i, unl_l, unl_r, unl_n, nth_0, nth_s, sf_0, sf_s, cnd_0, cnd_1, cnd_2, cnd_3, cnd_4, cnd_5, fit_0, fit_1, fit_2, en_0, en_i, en_l, en_r, kb_t, kb_f, kb_n, sw_0, sw_s, ↓reduceIte, Nat.reduceEqDiff, Nat.left_eq_add, Nat.add_eq_left, Nat.add_left_cancel_iff, Nat.reduceAdd, Int.reduceLT, Int.reduceLE, Int.reduceAdd, Int.reduceSub, Int.reduceNeg, Int.reduceMul, Int.reduceToNat, Int.reduceEq, reduceCtorEq, true_and, and_true, true_or, or_true, and_false, false_and, or_false, false_or, not_true_eq_false, not_false_eq_true, Nat.le_refl, and_self, Sum.inl.injEq, Sum.inr.injEq, Option.some.injEq, hS_2, k_isref, pd_0, pd_s, List.cons_append, List.nil_append, Option.toList_none, Option.toList_some, tX12_init, rX12_init, u6, hS_hS]
  refine p_nwa 65 180 0 a6 (by omega) (by decide) (fun g7 a7 b7 c7 => p_go [] 80 ?_)
  have u7 := (c7 57 (by decide)).trans (hS_s g6 57 _)
  have A7 : ∀ z, 57 < z → z < 66 → g7.2 z = some (mAr z) := fun z z1 z2 => by
    by_cases e : z = 65
    · rw [e]; exact b7
    · exact (c7 z e).trans ((hS_n (by omega)).trans (A6 z z1 (by omega)))
  have Z7 : ∀ z, z < 57 → g7.2 z = h.2 z := fun z hz => (c7 z (by omega)).trans ((hS_n (by omega)).trans (Z6 z hz))
  clear b7 c7 A6 Z6 u6
  simp only [st_0, st_1, st_2, st_3, st_4, st_5, st_6, st_7, st_8, st_9, st_10, st_11, st_12, st_13, st_14, st_15, st_16, st_17, st_18, st_19, st_20, st_21, st_22, st_23, st_24, st_25, st_26, st_27, st_28, st_29, st_30, st_31, st_32, st_33, st_34, st_34a, st_35, st_36, st_37, st_38, st_39, st_42, st_44, st_45, st_47, st_40, st_41, st_46, st_48, st_49, st_43, go_0, go_s, cut_0, cut_s, get_0, get_s, put_0, put_1, put_s, clr_0, clr_s, unl_i, unl_l, unl_r, unl_n, nth_0, nth_s, sf_0, sf_s, cnd_0, cnd_1, cnd_2, cnd_3, cnd_4, cnd_5, fit_0, fit_1, fit_2, en_0, en_i, en_l, en_r, kb_t, kb_f, kb_n, sw_0, sw_s, ↓reduceIte, Nat.reduceEqDiff, Nat.left_eq_add, Nat.add_eq_left, Nat.add_left_cancel_iff, Nat.reduceAdd, Int.reduceLT, Int.reduceLE, Int.reduceAdd, Int.reduceSub, Int.reduceNeg, Int.reduceMul, Int.reduceToNat, Int.reduceEq, reduceCtorEq, true_and, and_true, true_or, or_true, and_false, false_and, or_false, false_or, not_true_eq_false, not_false_eq_true, Nat.le_refl, and_self, Sum.inl.injEq, Sum.inr.injEq, Option.some.injEq, hS_2, k_isref, pd_0, pd_s, List.cons_append, List.nil_append, Option.toList_none, Option.toList_some, tX12_init, rX12_init, u7, hS_hS]
  refine p_nwa 66 60 0 a7 (by omega) (by decide) (fun g8 a8 b8 c8 => p_go [] 80 ?_)
  have u8 := (c8 57 (by decide)).trans (hS_s g7 57 _)
  have A8 : ∀ z, 57 < z → z < 67 → g8.2 z = some (mAr z) := fun z z1 z2 => by
    by_cases e : z = 66
    · rw [e]; exact b8
    · exact (c8 z e).trans ((hS_n (by omega)).trans (A7 z z1 (by omega)))
  have Z8 : ∀ z, z < 57 → g8.2 z = h.2 z := fun z hz => (c8 z (by omega)).trans ((hS_n (by omega)).trans (Z7 z hz))
  clear b8 c8 A7 Z7 u7
  simp only [st_0, st_1, st_2, st_3, st_4, st_5, st_6, st_7, st_8, st_9, st_10, st_11, st_12, st_13, st_14, st_15, st_16, st_17, st_18, st_19, st_20, st_21, st_22, st_23, st_24, st_25, st_26, st_27, st_28, st_29, st_30, st_31, st_32, st_33, st_34, st_34a, st_35, st_36, st_37, st_38, st_39, st_42, st_44, st_45, st_47, st_40, st_41, st_46, st_48, st_49, st_43, go_0, go_s, cut_0, cut_s, get_0, get_s, put_0, put_1, put_s, clr_0, clr_s, unl_i, unl_l, unl_r, unl_n, nth_0, nth_s, sf_0, sf_s, cnd_0, cnd_1, cnd_2, cnd_3, cnd_4, cnd_5, fit_0, fit_1, fit_2, en_0, en_i, en_l, en_r, kb_t, kb_f, kb_n, sw_0, sw_s, ↓reduceIte, Nat.reduceEqDiff, Nat.left_eq_add, Nat.add_eq_left, Nat.add_left_cancel_iff, Nat.reduceAdd, Int.reduceLT, Int.reduceLE, Int.reduceAdd, Int.reduceSub, Int.reduceNeg, Int.reduceMul, Int.reduceToNat, Int.reduceEq, reduceCtorEq, true_and, and_true, true_or, or_true, and_false, false_and, or_false, false_or, not_true_eq_false, not_false_eq_true, Nat.le_refl, and_self, Sum.inl.injEq, Sum.inr.injEq, Option.some.injEq, hS_2, k_isref, pd_0, pd_s, List.cons_append, List.nil_append, Option.toList_none, Option.toList_some, tX12_init, rX12_init, u8, hS_hS]
  refine p_nwa 67 400 0 a8 (by omega) (by decide) (fun g9 a9 b9 c9 => p_go [] 80 ?_)
  have u9 := (c9 57 (by decide)).trans (hS_s g8 57 _)
  have A9 : ∀ z, 57 < z → z < 68 → g9.2 z = some (mAr z) := fun z z1 z2 => by
    by_cases e : z = 67
    · rw [e]; exact b9
    · exact (c9 z e).trans ((hS_n (by omega)).trans (A8 z z1 (by omega)))
  have Z9 : ∀ z, z < 57 → g9.2 z = h.2 z := fun z hz => (c9 z (by omega)).trans ((hS_n (by omega)).trans (Z8 z hz))
  clear b9 c9 A8 Z8 u8
  simp only [st_0, st_1, st_2, st_3, st_4, st_5, st_6, st_7, st_8, st_9, st_10, st_11, st_12, st_13, st_14, st_15, st_16, st_17, st_18, st_19, st_20, st_21, st_22, st_23, st_24, st_25, st_26, st_27, st_28, st_29, st_30, st_31, st_32, st_33, st_34, st_34a, st_35, st_36, st_37, st_38, st_39, st_42, st_44, st_45, st_47, st_40, st_41, st_46, st_48, st_49, st_43, go_0, go_s, cut_0, cut_s, get_0, get_s, put_0, put_1, put_s, clr_0, clr_s, unl_i, unl_l, unl_r, unl_n, nth_0, nth_s, sf_0, sf_s, cnd_0, cnd_1, cnd_2, cnd_3, cnd_4, cnd_5, fit_0, fit_1, fit_2, en_0, en_i, en_l, en_r, kb_t, kb_f, kb_n, sw_0, sw_s, ↓reduceIte, Nat.reduceEqDiff, Nat.left_eq_add, Nat.add_eq_left, Nat.add_left_cancel_iff, Nat.reduceAdd, Int.reduceLT, Int.reduceLE, Int.reduceAdd, Int.reduceSub, Int.reduceNeg, Int.reduceMul, Int.reduceToNat, Int.reduceEq, reduceCtorEq, true_and, and_true, true_or, or_true, and_false, false_and, or_false, false_or, not_true_eq_false, not_false_eq_true, Nat.le_refl, and_self, Sum.inl.injEq, Sum.inr.injEq, Option.some.injEq, hS_2, k_isref, pd_0, pd_s, List.cons_append, List.nil_append, Option.toList_none, Option.toList_some, tX12_init, rX12_init, u9, hS_hS]
  refine p_nwa 68 40 0 a9 (by omega) (by decide) (fun g10 a10 b10 c10 => p_go [] 80 ?_)
  have u10 := (c10 57 (by decide)).trans (hS_s g9 57 _)
  have A10 : ∀ z, 57 < z → z < 69 → g10.2 z = some (mAr z) := fun z z1 z2 => by
    by_cases e : z = 68
    · rw [e]; exact b10
    · exact (c10 z e).trans ((hS_n (by omega)).trans (A9 z z1 (by omega)))
  have Z10 : ∀ z, z < 57 → g10.2 z = h.2 z := fun z hz => (c10 z (by omega)).trans ((hS_n (by omega)).trans (Z9 z hz))
  clear b10 c10 A9 Z9 u9
  simp only [st_0, st_1, st_2, st_3, st_4, st_5, st_6, st_7, st_8, st_9, st_10, st_11, st_12, st_13, st_14, st_15, st_16, st_17, st_18, st_19, st_20, st_21, st_22, st_23, st_24, st_25, st_26, st_27, st_28, st_29, st_30, st_31, st_32, st_33, st_34, st_34a, st_35, st_36, st_37, st_38, st_39, st_42, st_44, st_45, st_47, st_40, st_41, st_46, st_48, st_49, st_43, go_0, go_s, cut_0, cut_s, get_0, get_s, put_0, put_1, put_s, clr_0, clr_s, unl_i, unl_l, unl_r, unl_n, nth_0, nth_s, sf_0, sf_s, cnd_0, cnd_1, cnd_2, cnd_3, cnd_4, cnd_5, fit_0, fit_1, fit_2, en_0, en_i, en_l, en_r, kb_t, kb_f, kb_n, sw_0, sw_s, ↓reduceIte, Nat.reduceEqDiff, Nat.left_eq_add, Nat.add_eq_left, Nat.add_left_cancel_iff, Nat.reduceAdd, Int.reduceLT, Int.reduceLE, Int.reduceAdd, Int.reduceSub, Int.reduceNeg, Int.reduceMul, Int.reduceToNat, Int.reduceEq, reduceCtorEq, true_and, and_true, true_or, or_true, and_false, false_and, or_false, false_or, not_true_eq_false, not_false_eq_true, Nat.le_refl, and_self, Sum.inl.injEq, Sum.inr.injEq, Option.some.injEq, hS_2, k_isref, pd_0, pd_s, List.cons_append, List.nil_append, Option.toList_none, Option.toList_some, tX12_init, rX12_init, u10, hS_hS]
  refine p_nwa 69 800 0 a10 (by omega) (by decide) (fun g11 a11 b11 c11 => p_go [] 80 ?_)
  have u11 := (c11 57 (by decide)).trans (hS_s g10 57 _)
  have A11 : ∀ z, 57 < z → z < 70 → g11.2 z = some (mAr z) := fun z z1 z2 => by
    by_cases e : z = 69
    · rw [e]; exact b11
    · exact (c11 z e).trans ((hS_n (by omega)).trans (A10 z z1 (by omega)))
  have Z11 : ∀ z, z < 57 → g11.2 z = h.2 z := fun z hz => (c11 z (by omega)).trans ((hS_n (by omega)).trans (Z10 z hz))
  clear b11 c11 A10 Z10 u10
  simp only [st_0, st_1, st_2, st_3, st_4, st_5, st_6, st_7, st_8, st_9, st_10, st_11, st_12, st_13, st_14, st_15, st_16, st_17, st_18, st_19, st_20, st_21, st_22, st_23, st_24, st_25, st_26, st_27, st_28, st_29, st_30, st_31, st_32, st_33, st_34, st_34a, st_35, st_36, st_37, st_38, st_39, st_42, st_44, st_45, st_47, st_40, st_41, st_46, st_48, st_49, st_43, go_0, go_s, cut_0, cut_s, get_0, get_s, put_0, put_1, put_s, clr_0, clr_s, unl_i, unl_l, unl_r, unl_n, nth_0, nth_s, sf_0, sf_s, cnd_0, cnd_1, cnd_2, cnd_3, cnd_4, cnd_5, fit_0, fit_1, fit_2, en_0, en_i, en_l, en_r, kb_t, kb_f, kb_n, sw_0, sw_s, ↓reduceIte, Nat.reduceEqDiff, Nat.left_eq_add, Nat.add_eq_left, Nat.add_left_cancel_iff, Nat.reduceAdd, Int.reduceLT, Int.reduceLE, Int.reduceAdd, Int.reduceSub, Int.reduceNeg, Int.reduceMul, Int.reduceToNat, Int.reduceEq, reduceCtorEq, true_and, and_true, true_or, or_true, and_false, false_and, or_false, false_or, not_true_eq_false, not_false_eq_true, Nat.le_refl, and_self, Sum.inl.injEq, Sum.inr.injEq, Option.some.injEq, hS_2, k_isref, pd_0, pd_s, List.cons_append, List.nil_append, Option.toList_none, Option.toList_some, tX12_init, rX12_init, u11, hS_hS]
  refine p_nwa 70 40 0 a11 (by omega) (by decide) (fun g12 a12 b12 c12 => p_go [] 80 ?_)
  have u12 := (c12 57 (by decide)).trans (hS_s g11 57 _)
  have A12 : ∀ z, 57 < z → z < 71 → g12.2 z = some (mAr z) := fun z z1 z2 => by
    by_cases e : z = 70
    · rw [e]; exact b12
    · exact (c12 z e).trans ((hS_n (by omega)).trans (A11 z z1 (by omega)))
  have Z12 : ∀ z, z < 57 → g12.2 z = h.2 z := fun z hz => (c12 z (by omega)).trans ((hS_n (by omega)).trans (Z11 z hz))
  clear b12 c12 A11 Z11 u11
  simp only [st_0, st_1, st_2, st_3, st_4, st_5, st_6, st_7, st_8, st_9, st_10, st_11, st_12, st_13, st_14, st_15, st_16, st_17, st_18, st_19, st_20, st_21, st_22, st_23, st_24, st_25, st_26, st_27, st_28, st_29, st_30, st_31, st_32, st_33, st_34, st_34a, st_35, st_36, st_37, st_38, st_39, st_42, st_44, st_45, st_47, st_40, st_41, st_46, st_48, st_49, st_43, go_0, go_s, cut_0, cut_s, get_0, get_s, put_0, put_1, put_s, clr_0, clr_s, unl_i, unl_l, unl_r, unl_n, nth_0, nth_s, sf_0, sf_s, cnd_0, cnd_1, cnd_2, cnd_3, cnd_4, cnd_5, fit_0, fit_1, fit_2, en_0, en_i, en_l, en_r, kb_t, kb_f, kb_n, sw_0, sw_s, ↓reduceIte, Nat.reduceEqDiff, Nat.left_eq_add, Nat.add_eq_left, Nat.add_left_cancel_iff, Nat.reduceAdd, Int.reduceLT, Int.reduceLE, Int.reduceAdd, Int.reduceSub, Int.reduceNeg, Int.reduceMul, Int.reduceToNat, Int.reduceEq, reduceCtorEq, true_and, and_true, true_or, or_true, and_false, false_and, or_false, false_or, not_true_eq_false, not_false_eq_true, Nat.le_refl, and_self, Sum.inl.injEq, Sum.inr.injEq, Option.some.injEq, hS_2, k_isref, pd_0, pd_s, List.cons_append, List.nil_append, Option.toList_none, Option.toList_some, tX12_init, rX12_init, u12, hS_hS]
  refine p_nwa 71 40 0 a12 (by omega) (by decide) (fun g13 a13 b13 c13 => p_go [] 80 ?_)
  have u13 := (c13 57 (by decide)).trans (hS_s g12 57 _)
  have A13 : ∀ z, 57 < z → z < 72 → g13.2 z = some (mAr z) := fun z z1 z2 => by
    by_cases e : z = 71
    · rw [e]; exact b13
    · exact (c13 z e).trans ((hS_n (by omega)).trans (A12 z z1 (by omega)))
  have Z13 : ∀ z, z < 57 → g13.2 z = h.2 z := fun z hz => (c13 z (by omega)).trans ((hS_n (by omega)).trans (Z12 z hz))
  clear b13 c13 A12 Z12 u12
  simp only [st_0, st_1, st_2, st_3, st_4, st_5, st_6, st_7, st_8, st_9, st_10, st_11, st_12, st_13, st_14, st_15, st_16, st_17, st_18, st_19, st_20, st_21, st_22, st_23, st_24, st_25, st_26, st_27, st_28, st_29, st_30, st_31, st_32, st_33, st_34, st_34a, st_35, st_36, st_37, st_38, st_39, st_42, st_44, st_45, st_47, st_40, st_41, st_46, st_48, st_49, st_43, go_0, go_s, cut_0, cut_s, get_0, get_s, put_0, put_1, put_s, clr_0, clr_s, unl_i, unl_l, unl_r, unl_n, nth_0, nth_s, sf_0, sf_s, cnd_0, cnd_1, cnd_2, cnd_3, cnd_4, cnd_5, fit_0, fit_1, fit_2, en_0, en_i, en_l, en_r, kb_t, kb_f, kb_n, sw_0, sw_s, ↓reduceIte, Nat.reduceEqDiff, Nat.left_eq_add, Nat.add_eq_left, Nat.add_left_cancel_iff, Nat.reduceAdd, Int.reduceLT, Int.reduceLE, Int.reduceAdd, Int.reduceSub, Int.reduceNeg, Int.reduceMul, Int.reduceToNat, Int.reduceEq, reduceCtorEq, true_and, and_true, true_or, or_true, and_false, false_and, or_false, false_or, not_true_eq_false, not_false_eq_true, Nat.le_refl, and_self, Sum.inl.injEq, Sum.inr.injEq, Option.some.injEq, hS_2, k_isref, pd_0, pd_s, List.cons_append, List.nil_append, Option.toList_none, Option.toList_some, tX12_init, rX12_init, u13, hS_hS]
  refine p_nwa 72 400 0 a13 (by omega) (by decide) (fun g14 a14 b14 c14 => p_go [] 80 ?_)
  have u14 := (c14 57 (by decide)).trans (hS_s g13 57 _)
  have A14 : ∀ z, 57 < z → z < 73 → g14.2 z = some (mAr z) := fun z z1 z2 => by
    by_cases e : z = 72
    · rw [e]; exact b14
    · exact (c14 z e).trans ((hS_n (by omega)).trans (A13 z z1 (by omega)))
  have Z14 : ∀ z, z < 57 → g14.2 z = h.2 z := fun z hz => (c14 z (by omega)).trans ((hS_n (by omega)).trans (Z13 z hz))
  clear b14 c14 A13 Z13 u13
  simp only [st_0, st_1, st_2, st_3, st_4, st_5, st_6, st_7, st_8, st_9, st_10, st_11, st_12, st_13, st_14, st_15, st_16, st_17, st_18, st_19, st_20, st_21, st_22, st_23, st_24, st_25, st_26, st_27, st_28, st_29, st_30, st_31, st_32, st_33, st_34, st_34a, st_35, st_36, st_37, st_38, st_39, st_42, st_44, st_45, st_47, st_40, st_41, st_46, st_48, st_49, st_43, go_0, go_s, cut_0, cut_s, get_0, get_s, put_0, put_1, put_s, clr_0, clr_s, unl_i, unl_l, unl_r, unl_n, nth_0, nth_s, sf_0, sf_s, cnd_0, cnd_1, cnd_2, cnd_3, cnd_4, cnd_5, fit_0, fit_1, fit_2, en_0, en_i, en_l, en_r, kb_t, kb_f, kb_n, sw_0, sw_s, ↓reduceIte, Nat.reduceEqDiff, Nat.left_eq_add, Nat.add_eq_left, Nat.add_left_cancel_iff, Nat.reduceAdd, Int.reduceLT, Int.reduceLE, Int.reduceAdd, Int.reduceSub, Int.reduceNeg, Int.reduceMul, Int.reduceToNat, Int.reduceEq, reduceCtorEq, true_and, and_true, true_or, or_true, and_false, false_and, or_false, false_or, not_true_eq_false, not_false_eq_true, Nat.le_refl, and_self, Sum.inl.injEq, Sum.inr.injEq, Option.some.injEq, hS_2, k_isref, pd_0, pd_s, List.cons_append, List.nil_append, Option.toList_none, Option.toList_some, tX12_init, rX12_init, u14, hS_hS]
  refine p_nwa 73 20 0 a14 (by omega) (by decide) (fun g15 a15 b15 c15 => p_go [] 80 ?_)
  have u15 := (c15 57 (by decide)).trans (hS_s g14 57 _)
  have A15 : ∀ z, 57 < z → z < 74 → g15.2 z = some (mAr z) := fun z z1 z2 => by
    by_cases e : z = 73
    · rw [e]; exact b15
    · exact (c15 z e).trans ((hS_n (by omega)).trans (A14 z z1 (by omega)))
  have Z15 : ∀ z, z < 57 → g15.2 z = h.2 z := fun z hz => (c15 z (by omega)).trans ((hS_n (by omega)).trans (Z14 z hz))
  clear b15 c15 A14 Z14 u14
  simp only [st_0, st_1, st_2, st_3, st_4, st_5, st_6, st_7, st_8, st_9, st_10, st_11, st_12, st_13, st_14, st_15, st_16, st_17, st_18, st_19, st_20, st_21, st_22, st_23, st_24, st_25, st_26, st_27, st_28, st_29, st_30, st_31, st_32, st_33, st_34, st_34a, st_35, st_36, st_37, st_38, st_39, st_42, st_44, st_45, st_47, st_40, st_41, st_46, st_48, st_49, st_43, go_0, go_s, cut_0, cut_s, get_0, get_s, put_0, put_1, put_s, clr_0, clr_s, unl_i, unl_l, unl_r, unl_n, nth_0, nth_s, sf_0, sf_s, cnd_0, cnd_1, cnd_2, cnd_3, cnd_4, cnd_5, fit_0, fit_1, fit_2, en_0, en_i, en_l, en_r, kb_t, kb_f, kb_n, sw_0, sw_s, ↓reduceIte, Nat.reduceEqDiff, Nat.left_eq_add, Nat.add_eq_left, Nat.add_left_cancel_iff, Nat.reduceAdd, Int.reduceLT, Int.reduceLE, Int.reduceAdd, Int.reduceSub, Int.reduceNeg, Int.reduceMul, Int.reduceToNat, Int.reduceEq, reduceCtorEq, true_and, and_true, true_or, or_true, and_false, false_and, or_false, false_or, not_true_eq_false, not_false_eq_true, Nat.le_refl, and_self, Sum.inl.injEq, Sum.inr.injEq, Option.some.injEq, hS_2, k_isref, pd_0, pd_s, List.cons_append, List.nil_append, Option.toList_none, Option.toList_some, tX12_init, rX12_init, u15, hS_hS]
  refine p_nwa 74 20 0 a15 (by omega) (by decide) (fun g16 a16 b16 c16 => p_go [] 80 ?_)
  have u16 := (c16 57 (by decide)).trans (hS_s g15 57 _)
  have A16 : ∀ z, 57 < z → z < 75 → g16.2 z = some (mAr z) := fun z z1 z2 => by
    by_cases e : z = 74
    · rw [e]; exact b16
    · exact (c16 z e).trans ((hS_n (by omega)).trans (A15 z z1 (by omega)))
  have Z16 : ∀ z, z < 57 → g16.2 z = h.2 z := fun z hz => (c16 z (by omega)).trans ((hS_n (by omega)).trans (Z15 z hz))
  clear b16 c16 A15 Z15 u15
  simp only [st_0, st_1, st_2, st_3, st_4, st_5, st_6, st_7, st_8, st_9, st_10, st_11, st_12, st_13, st_14, st_15, st_16, st_17, st_18, st_19, st_20, st_21, st_22, st_23, st_24, st_25, st_26, st_27, st_28, st_29, st_30, st_31, st_32, st_33, st_34, st_34a, st_35, st_36, st_37, st_38, st_39, st_42, st_44, st_45, st_47, st_40, st_41, st_46, st_48, st_49, st_43, go_0, go_s, cut_0, cut_s, get_0, get_s, put_0, put_1, put_s, clr_0, clr_s, unl_i, unl_l, unl_r, unl_n, nth_0, nth_s, sf_0, sf_s, cnd_0, cnd_1, cnd_2, cnd_3, cnd_4, cnd_5, fit_0, fit_1, fit_2, en_0, en_i, en_l, en_r, kb_t, kb_f, kb_n, sw_0, sw_s, ↓reduceIte, Nat.reduceEqDiff, Nat.left_eq_add, Nat.add_eq_left, Nat.add_left_cancel_iff, Nat.reduceAdd, Int.reduceLT, Int.reduceLE, Int.reduceAdd, Int.reduceSub, Int.reduceNeg, Int.reduceMul, Int.reduceToNat, Int.reduceEq, reduceCtorEq, true_and, and_true, true_or, or_true, and_false, false_and, or_false, false_or, not_true_eq_false, not_false_eq_true, Nat.le_refl, and_self, Sum.inl.injEq, Sum.inr.injEq, Option.some.injEq, hS_2, k_isref, pd_0, pd_s, List.cons_append, List.nil_append, Option.toList_none, Option.toList_some, tX12_init, rX12_init, u16, hS_hS]
  refine p_nwa 75 20 0 a16 (by omega) (by decide) (fun g17 a17 b17 c17 => p_go [] 80 ?_)
  have u17 := (c17 57 (by decide)).trans (hS_s g16 57 _)
  have A17 : ∀ z, 57 < z → z < 76 → g17.2 z = some (mAr z) := fun z z1 z2 => by
    by_cases e : z = 75
    · rw [e]; exact b17
    · exact (c17 z e).trans ((hS_n (by omega)).trans (A16 z z1 (by omega)))
  have Z17 : ∀ z, z < 57 → g17.2 z = h.2 z := fun z hz => (c17 z (by omega)).trans ((hS_n (by omega)).trans (Z16 z hz))
  clear b17 c17 A16 Z16 u16
  simp only [st_0, st_1, st_2, st_3, st_4, st_5, st_6, st_7, st_8, st_9, st_10, st_11, st_12, st_13, st_14, st_15, st_16, st_17, st_18, st_19, st_20, st_21, st_22, st_23, st_24, st_25, st_26, st_27, st_28, st_29, st_30, st_31, st_32, st_33, st_34, st_34a, st_35, st_36, st_37, st_38, st_39, st_42, st_44, st_45, st_47, st_40, st_41, st_46, st_48, st_49, st_43, go_0, go_s, cut_0, cut_s, get_0, get_s, put_0, put_1, put_s, clr_0, clr_s, unl_i, unl_l, unl_r, unl_n, nth_0, nth_s, sf_0, sf_s, cnd_0, cnd_1, cnd_2, cnd_3, cnd_4, cnd_5, fit_0, fit_1, fit_2, en_0, en_i, en_l, en_r, kb_t, kb_f, kb_n, sw_0, sw_s, ↓reduceIte, Nat.reduceEqDiff, Nat.left_eq_add, Nat.add_eq_left, Nat.add_left_cancel_iff, Nat.reduceAdd, Int.reduceLT, Int.reduceLE, Int.reduceAdd, Int.reduceSub, Int.reduceNeg, Int.reduceMul, Int.reduceToNat, Int.reduceEq, reduceCtorEq, true_and, and_true, true_or, or_true, and_false, false_and, or_false, false_or, not_true_eq_false, not_false_eq_true, Nat.le_refl, and_self, Sum.inl.injEq, Sum.inr.injEq, Option.some.injEq, hS_2, k_isref, pd_0, pd_s, List.cons_append, List.nil_append, Option.toList_none, Option.toList_some, tX12_init, rX12_init, u17, hS_hS]
  refine p_nwa 76 8 0 a17 (by omega) (by decide) (fun g18 a18 b18 c18 => p_go [] 80 ?_)
  have u18 := (c18 57 (by decide)).trans (hS_s g17 57 _)
  have A18 : ∀ z, 57 < z → z < 77 → g18.2 z = some (mAr z) := fun z z1 z2 => by
    by_cases e : z = 76
    · rw [e]; exact b18
    · exact (c18 z e).trans ((hS_n (by omega)).trans (A17 z z1 (by omega)))
  have Z18 : ∀ z, z < 57 → g18.2 z = h.2 z := fun z hz => (c18 z (by omega)).trans ((hS_n (by omega)).trans (Z17 z hz))
  clear b18 c18 A17 Z17 u17
  simp only [st_0, st_1, st_2, st_3, st_4, st_5, st_6, st_7, st_8, st_9, st_10, st_11, st_12, st_13, st_14, st_15, st_16, st_17, st_18, st_19, st_20, st_21, st_22, st_23, st_24, st_25, st_26, st_27, st_28, st_29, st_30, st_31, st_32, st_33, st_34, st_34a, st_35, st_36, st_37, st_38, st_39, st_42, st_44, st_45, st_47, st_40, st_41, st_46, st_48, st_49, st_43, go_0, go_s, cut_0, cut_s, get_0, get_s, put_0, put_1, put_s, clr_0, clr_s, unl_i, unl_l, unl_r, unl_n, nth_0, nth_s, sf_0, sf_s, cnd_0, cnd_1, cnd_2, cnd_3, cnd_4, cnd_5, fit_0, fit_1, fit_2, en_0, en_i, en_l, en_r, kb_t, kb_f, kb_n, sw_0, sw_s, ↓reduceIte, Nat.reduceEqDiff, Nat.left_eq_add, Nat.add_eq_left, Nat.add_left_cancel_iff, Nat.reduceAdd, Int.reduceLT, Int.reduceLE, Int.reduceAdd, Int.reduceSub, Int.reduceNeg, Int.reduceMul, Int.reduceToNat, Int.reduceEq, reduceCtorEq, true_and, and_true, true_or, or_true, and_false, false_and, or_false, false_or, not_true_eq_false, not_false_eq_true, Nat.le_refl, and_self, Sum.inl.injEq, Sum.inr.injEq, Option.some.injEq, hS_2, k_isref, pd_0, pd_s, List.cons_append, List.nil_append, Option.toList_none, Option.toList_some, tX12_init, rX12_init, u18, hS_hS]
  refine p_nwa 77 8 0 a18 (by omega) (by decide) (fun g19 a19 b19 c19 => p_go [] 80 ?_)
  have u19 := (c19 57 (by decide)).trans (hS_s g18 57 _)
  have A19 : ∀ z, 57 < z → z < 78 → g19.2 z = some (mAr z) := fun z z1 z2 => by
    by_cases e : z = 77
    · rw [e]; exact b19
    · exact (c19 z e).trans ((hS_n (by omega)).trans (A18 z z1 (by omega)))
  have Z19 : ∀ z, z < 57 → g19.2 z = h.2 z := fun z hz => (c19 z (by omega)).trans ((hS_n (by omega)).trans (Z18 z hz))
  clear b19 c19 A18 Z18 u18
  simp only [st_0, st_1, st_2, st_3, st_4, st_5, st_6, st_7, st_8, st_9, st_10, st_11, st_12, st_13, st_14, st_15, st_16, st_17, st_18, st_19, st_20, st_21, st_22, st_23, st_24, st_25, st_26, st_27, st_28, st_29, st_30, st_31, st_32, st_33, st_34, st_34a, st_35, st_36, st_37, st_38, st_39, st_42, st_44, st_45, st_47, st_40, st_41, st_46, st_48, st_49, st_43, go_0, go_s, cut_0, cut_s, get_0, get_s, put_0, put_1, put_s, clr_0, clr_s, unl_i, unl_l, unl_r, unl_n, nth_0, nth_s, sf_0, sf_s, cnd_0, cnd_1, cnd_2, cnd_3, cnd_4, cnd_5, fit_0, fit_1, fit_2, en_0, en_i, en_l, en_r, kb_t, kb_f, kb_n, sw_0, sw_s, ↓reduceIte, Nat.reduceEqDiff, Nat.left_eq_add, Nat.add_eq_left, Nat.add_left_cancel_iff, Nat.reduceAdd, Int.reduceLT, Int.reduceLE, Int.reduceAdd, Int.reduceSub, Int.reduceNeg, Int.reduceMul, Int.reduceToNat, Int.reduceEq, reduceCtorEq, true_and, and_true, true_or, or_true, and_false, false_and, or_false, false_or, not_true_eq_false, not_false_eq_true, Nat.le_refl, and_self, Sum.inl.injEq, Sum.inr.injEq, Option.some.injEq, hS_2, k_isref, pd_0, pd_s, List.cons_append, List.nil_append, Option.toList_none, Option.toList_some, tX12_init, rX12_init, u19, hS_hS]
  refine p_nwa 78 8 0 a19 (by omega) (by decide) (fun g20 a20 b20 c20 => p_go [] 80 ?_)
  have u20 := (c20 57 (by decide)).trans (hS_s g19 57 _)
  have A20 : ∀ z, 57 < z → z < 79 → g20.2 z = some (mAr z) := fun z z1 z2 => by
    by_cases e : z = 78
    · rw [e]; exact b20
    · exact (c20 z e).trans ((hS_n (by omega)).trans (A19 z z1 (by omega)))
  have Z20 : ∀ z, z < 57 → g20.2 z = h.2 z := fun z hz => (c20 z (by omega)).trans ((hS_n (by omega)).trans (Z19 z hz))
  clear b20 c20 A19 Z19 u19
  simp only [st_0, st_1, st_2, st_3, st_4, st_5, st_6, st_7, st_8, st_9, st_10, st_11, st_12, st_13, st_14, st_15, st_16, st_17, st_18, st_19, st_20, st_21, st_22, st_23, st_24, st_25, st_26, st_27, st_28, st_29, st_30, st_31, st_32, st_33, st_34, st_34a, st_35, st_36, st_37, st_38, st_39, st_42, st_44, st_45, st_47, st_40, st_41, st_46, st_48, st_49, st_43, go_0, go_s, cut_0, cut_s, get_0, get_s, put_0, put_1, put_s, clr_0, clr_s, unl_i, unl_l, unl_r, unl_n, nth_0, nth_s, sf_0, sf_s, cnd_0, cnd_1, cnd_2, cnd_3, cnd_4, cnd_5, fit_0, fit_1, fit_2, en_0, en_i, en_l, en_r, kb_t, kb_f, kb_n, sw_0, sw_s, ↓reduceIte, Nat.reduceEqDiff, Nat.left_eq_add, Nat.add_eq_left, Nat.add_left_cancel_iff, Nat.reduceAdd, Int.reduceLT, Int.reduceLE, Int.reduceAdd, Int.reduceSub, Int.reduceNeg, Int.reduceMul, Int.reduceToNat, Int.reduceEq, reduceCtorEq, true_and, and_true, true_or, or_true, and_false, false_and, or_false, false_or, not_true_eq_false, not_false_eq_true, Nat.le_refl, and_self, Sum.inl.injEq, Sum.inr.injEq, Option.some.injEq, hS_2, k_isref, pd_0, pd_s, List.cons_append, List.nil_append, Option.toList_none, Option.toList_some, tX12_init, rX12_init, u20, hS_hS]
  refine p_nwa 79 8 2 a20 (by omega) (by decide) (fun g21 a21 b21 c21 => p_go [] 80 ?_)
  have u21 := (c21 57 (by decide)).trans (hS_s g20 57 _)
  have A21 : ∀ z, 57 < z → z < 80 → g21.2 z = some (mAr z) := fun z z1 z2 => by
    by_cases e : z = 79
    · rw [e]; exact b21
    · exact (c21 z e).trans ((hS_n (by omega)).trans (A20 z z1 (by omega)))
  have Z21 : ∀ z, z < 57 → g21.2 z = h.2 z := fun z hz => (c21 z (by omega)).trans ((hS_n (by omega)).trans (Z20 z hz))
  clear b21 c21 A20 Z20 u20
  simp only [st_0, st_1, st_2, st_3, st_4, st_5, st_6, st_7, st_8, st_9, st_10, st_11, st_12, st_13, st_14, st_15, st_16, st_17, st_18, st_19, st_20, st_21, st_22, st_23, st_24, st_25, st_26, st_27, st_28, st_29, st_30, st_31, st_32, st_33, st_34, st_34a, st_35, st_36, st_37, st_38, st_39, st_42, st_44, st_45, st_47, st_40, st_41, st_46, st_48, st_49, st_43, go_0, go_s, cut_0, cut_s, get_0, get_s, put_0, put_1, put_s, clr_0, clr_s, unl_i, unl_l, unl_r, unl_n, nth_0, nth_s, sf_0, sf_s, cnd_0, cnd_1, cnd_2, cnd_3, cnd_4, cnd_5, fit_0, fit_1, fit_2, en_0, en_i, en_l, en_r, kb_t, kb_f, kb_n, sw_0, sw_s, ↓reduceIte, Nat.reduceEqDiff, Nat.left_eq_add, Nat.add_eq_left, Nat.add_left_cancel_iff, Nat.reduceAdd, Int.reduceLT, Int.reduceLE, Int.reduceAdd, Int.reduceSub, Int.reduceNeg, Int.reduceMul, Int.reduceToNat, Int.reduceEq, reduceCtorEq, true_and, and_true, true_or, or_true, and_false, false_and, or_false, false_or, not_true_eq_false, not_false_eq_true, Nat.le_refl, and_self, Sum.inl.injEq, Sum.inr.injEq, Option.some.injEq, hS_2, k_isref, pd_0, pd_s, List.cons_append, List.nil_append, Option.toList_none, Option.toList_some, tX12_init, rX12_init, u21, hS_hS]
  refine p_nwa 80 960 0 a21 (by omega) (by decide) (fun g22 a22 b22 c22 => p_go [] 80 ?_)
  have u22 := (c22 57 (by decide)).trans (hS_s g21 57 _)
  have A22 : ∀ z, 57 < z → z < 81 → g22.2 z = some (mAr z) := fun z z1 z2 => by
    by_cases e : z = 80
    · rw [e]; exact b22
    · exact (c22 z e).trans ((hS_n (by omega)).trans (A21 z z1 (by omega)))
  have Z22 : ∀ z, z < 57 → g22.2 z = h.2 z := fun z hz => (c22 z (by omega)).trans ((hS_n (by omega)).trans (Z21 z hz))
  clear b22 c22 A21 Z21 u21
  simp only [st_0, st_1, st_2, st_3, st_4, st_5, st_6, st_7, st_8, st_9, st_10, st_11, st_12, st_13, st_14, st_15, st_16, st_17, st_18, st_19, st_20, st_21, st_22, st_23, st_24, st_25, st_26, st_27, st_28, st_29, st_30, st_31, st_32, st_33, st_34, st_34a, st_35, st_36, st_37, st_38, st_39, st_42, st_44, st_45, st_47, st_40, st_41, st_46, st_48, st_49, st_43, go_0, go_s, cut_0, cut_s, get_0, get_s, put_0, put_1, put_s, clr_0, clr_s, unl_i, unl_l, unl_r, unl_n, nth_0, nth_s, sf_0, sf_s, cnd_0, cnd_1, cnd_2, cnd_3, cnd_4, cnd_5, fit_0, fit_1, fit_2, en_0, en_i, en_l, en_r, kb_t, kb_f, kb_n, sw_0, sw_s, ↓reduceIte, Nat.reduceEqDiff, Nat.left_eq_add, Nat.add_eq_left, Nat.add_left_cancel_iff, Nat.reduceAdd, Int.reduceLT, Int.reduceLE, Int.reduceAdd, Int.reduceSub, Int.reduceNeg, Int.reduceMul, Int.reduceToNat, Int.reduceEq, reduceCtorEq, true_and, and_true, true_or, or_true, and_false, false_and, or_false, false_or, not_true_eq_false, not_false_eq_true, Nat.le_refl, and_self, Sum.inl.injEq, Sum.inr.injEq, Option.some.injEq, hS_2, k_isref, pd_0, pd_s, List.cons_append, List.nil_append, Option.toList_none, Option.toList_some, tX12_init, rX12_init, u22, hS_hS]
  refine p_nwa 81 4800 0 a22 (by omega) (by decide) (fun g23 a23 b23 c23 => p_go [] 80 ?_)
  have u23 := (c23 57 (by decide)).trans (hS_s g22 57 _)
  have A23 : ∀ z, 57 < z → z < 82 → g23.2 z = some (mAr z) := fun z z1 z2 => by
    by_cases e : z = 81
    · rw [e]; exact b23
    · exact (c23 z e).trans ((hS_n (by omega)).trans (A22 z z1 (by omega)))
  have Z23 : ∀ z, z < 57 → g23.2 z = h.2 z := fun z hz => (c23 z (by omega)).trans ((hS_n (by omega)).trans (Z22 z hz))
  clear b23 c23 A22 Z22 u22
  simp only [st_0, st_1, st_2, st_3, st_4, st_5, st_6, st_7, st_8, st_9, st_10, st_11, st_12, st_13, st_14, st_15, st_16, st_17, st_18, st_19, st_20, st_21, st_22, st_23, st_24, st_25, st_26, st_27, st_28, st_29, st_30, st_31, st_32, st_33, st_34, st_34a, st_35, st_36, st_37, st_38, st_39, st_42, st_44, st_45, st_47, st_40, st_41, st_46, st_48, st_49, st_43, go_0, go_s, cut_0, cut_s, get_0, get_s, put_0, put_1, put_s, clr_0, clr_s, unl_i, unl_l, unl_r, unl_n, nth_0, nth_s, sf_0, sf_s, cnd_0, cnd_1, cnd_2, cnd_3, cnd_4, cnd_5, fit_0, fit_1, fit_2, en_0, en_i, en_l, en_r, kb_t, kb_f, kb_n, sw_0, sw_s, ↓reduceIte, Nat.reduceEqDiff, Nat.left_eq_add, Nat.add_eq_left, Nat.add_left_cancel_iff, Nat.reduceAdd, Int.reduceLT, Int.reduceLE, Int.reduceAdd, Int.reduceSub, Int.reduceNeg, Int.reduceMul, Int.reduceToNat, Int.reduceEq, reduceCtorEq, true_and, and_true, true_or, or_true, and_false, false_and, or_false, false_or, not_true_eq_false, not_false_eq_true, Nat.le_refl, and_self, Sum.inl.injEq, Sum.inr.injEq, Option.some.injEq, hS_2, k_isref, pd_0, pd_s, List.cons_append, List.nil_append, Option.toList_none, Option.toList_some, tX12_init, rX12_init, u23, hS_hS]
  refine p_nwa 82 120 0 a23 (by omega) (by decide) (fun g24 a24 b24 c24 => p_go [] 80 ?_)
  have u24 := (c24 57 (by decide)).trans (hS_s g23 57 _)
  have A24 : ∀ z, 57 < z → z < 83 → g24.2 z = some (mAr z) := fun z z1 z2 => by
    by_cases e : z = 82
    · rw [e]; exact b24
    · exact (c24 z e).trans ((hS_n (by omega)).trans (A23 z z1 (by omega)))
  have Z24 : ∀ z, z < 57 → g24.2 z = h.2 z := fun z hz => (c24 z (by omega)).trans ((hS_n (by omega)).trans (Z23 z hz))
  clear b24 c24 A23 Z23 u23
  simp only [st_0, st_1, st_2, st_3, st_4, st_5, st_6, st_7, st_8, st_9, st_10, st_11, st_12, st_13, st_14, st_15, st_16, st_17, st_18, st_19, st_20, st_21, st_22, st_23, st_24, st_25, st_26, st_27, st_28, st_29, st_30, st_31, st_32, st_33, st_34, st_34a, st_35, st_36, st_37, st_38, st_39, st_42, st_44, st_45, st_47, st_40, st_41, st_46, st_48, st_49, st_43, go_0, go_s, cut_0, cut_s, get_0, get_s, put_0, put_1, put_s, clr_0, clr_s, unl_i, unl_l, unl_r, unl_n, nth_0, nth_s, sf_0, sf_s, cnd_0, cnd_1, cnd_2, cnd_3, cnd_4, cnd_5, fit_0, fit_1, fit_2, en_0, en_i, en_l, en_r, kb_t, kb_f, kb_n, sw_0, sw_s, ↓reduceIte, Nat.reduceEqDiff, Nat.left_eq_add, Nat.add_eq_left, Nat.add_left_cancel_iff, Nat.reduceAdd, Int.reduceLT, Int.reduceLE, Int.reduceAdd, Int.reduceSub, Int.reduceNeg, Int.reduceMul, Int.reduceToNat, Int.reduceEq, reduceCtorEq, true_and, and_true, true_or, or_true, and_false, false_and, or_false, false_or, not_true_eq_false, not_false_eq_true, Nat.le_refl, and_self, Sum.inl.injEq, Sum.inr.injEq, Option.some.injEq, hS_2, k_isref, pd_0, pd_s, List.cons_append, List.nil_append, Option.toList_none, Option.toList_some, tX12_init, rX12_init, u24, hS_hS]
  refine p_nwa 83 960 0 a24 (by omega) (by decide) (fun g25 a25 b25 c25 => p_go [] 80 ?_)
  have u25 := (c25 57 (by decide)).trans (hS_s g24 57 _)
  have A25 : ∀ z, 57 < z → z < 84 → g25.2 z = some (mAr z) := fun z z1 z2 => by
    by_cases e : z = 83
    · rw [e]; exact b25
    · exact (c25 z e).trans ((hS_n (by omega)).trans (A24 z z1 (by omega)))
  have Z25 : ∀ z, z < 57 → g25.2 z = h.2 z := fun z hz => (c25 z (by omega)).trans ((hS_n (by omega)).trans (Z24 z hz))
  clear b25 c25 A24 Z24 u24
  simp only [st_0, st_1, st_2, st_3, st_4, st_5, st_6, st_7, st_8, st_9, st_10, st_11, st_12, st_13, st_14, st_15, st_16, st_17, st_18, st_19, st_20, st_21, st_22, st_23, st_24, st_25, st_26, st_27, st_28, st_29, st_30, st_31, st_32, st_33, st_34, st_34a, st_35, st_36, st_37, st_38, st_39, st_42, st_44, st_45, st_47, st_40, st_41, st_46, st_48, st_49, st_43, go_0, go_s, cut_0, cut_s, get_0, get_s, put_0, put_1, put_s, clr_0, clr_s, unl_i, unl_l, unl_r, unl_n, nth_0, nth_s, sf_0, sf_s, cnd_0, cnd_1, cnd_2, cnd_3, cnd_4, cnd_5, fit_0, fit_1, fit_2, en_0, en_i, en_l, en_r, kb_t, kb_f, kb_n, sw_0, sw_s, ↓reduceIte, Nat.reduceEqDiff, Nat.left_eq_add, Nat.add_eq_left, Nat.add_left_cancel_iff, Nat.reduceAdd, Int.reduceLT, Int.reduceLE, Int.reduceAdd, Int.reduceSub, Int.reduceNeg, Int.reduceMul, Int.reduceToNat, Int.reduceEq, reduceCtorEq, true_and, and_true, true_or, or_true, and_false, false_and, or_false, false_or, not_true_eq_false, not_false_eq_true, Nat.le_refl, and_self, Sum.inl.injEq, Sum.inr.injEq, Option.some.injEq, hS_2, k_isref, pd_0, pd_s, List.cons_append, List.nil_append, Option.toList_none, Option.toList_some, tX12_init, rX12_init, u25, hS_hS]
  refine p_nwa 84 8 0 a25 (by omega) (by decide) (fun g26 a26 b26 c26 => p_go [] 80 ?_)
  have u26 := (c26 57 (by decide)).trans (hS_s g25 57 _)
  have A26 : ∀ z, 57 < z → z < 85 → g26.2 z = some (mAr z) := fun z z1 z2 => by
    by_cases e : z = 84
    · rw [e]; exact b26
    · exact (c26 z e).trans ((hS_n (by omega)).trans (A25 z z1 (by omega)))
  have Z26 : ∀ z, z < 57 → g26.2 z = h.2 z := fun z hz => (c26 z (by omega)).trans ((hS_n (by omega)).trans (Z25 z hz))
  clear b26 c26 A25 Z25 u25
  simp only [st_0, st_1, st_2, st_3, st_4, st_5, st_6, st_7, st_8, st_9, st_10, st_11, st_12, st_13, st_14, st_15, st_16, st_17, st_18, st_19, st_20, st_21, st_22, st_23, st_24, st_25, st_26, st_27, st_28, st_29, st_30, st_31, st_32, st_33, st_34, st_34a, st_35, st_36, st_37, st_38, st_39, st_42, st_44, st_45, st_47, st_40, st_41, st_46, st_48, st_49, st_43, go_0, go_s, cut_0, cut_s, get_0, get_s, put_0, put_1, put_s, clr_0, clr_s, unl_i, unl_l, unl_r, unl_n, nth_0, nth_s, sf_0, sf_s, cnd_0, cnd_1, cnd_2, cnd_3, cnd_4, cnd_5, fit_0, fit_1, fit_2, en_0, en_i, en_l, en_r, kb_t, kb_f, kb_n, sw_0, sw_s, ↓reduceIte, Nat.reduceEqDiff, Nat.left_eq_add, Nat.add_eq_left, Nat.add_left_cancel_iff, Nat.reduceAdd, Int.reduceLT, Int.reduceLE, Int.reduceAdd, Int.reduceSub, Int.reduceNeg, Int.reduceMul, Int.reduceToNat, Int.reduceEq, reduceCtorEq, true_and, and_true, true_or, or_true, and_false, false_and, or_false, false_or, not_true_eq_false, not_false_eq_true, Nat.le_refl, and_self, Sum.inl.injEq, Sum.inr.injEq, Option.some.injEq, hS_2, k_isref, pd_0, pd_s, List.cons_append, List.nil_append, Option.toList_none, Option.toList_some, tX12_init, rX12_init, u26, hS_hS]
  refine p_nwa 85 640 0 a26 (by omega) (by decide) (fun g27 a27 b27 c27 => p_go [] 80 ?_)
  have u27 := (c27 57 (by decide)).trans (hS_s g26 57 _)
  have A27 : ∀ z, 57 < z → z < 86 → g27.2 z = some (mAr z) := fun z z1 z2 => by
    by_cases e : z = 85
    · rw [e]; exact b27
    · exact (c27 z e).trans ((hS_n (by omega)).trans (A26 z z1 (by omega)))
  have Z27 : ∀ z, z < 57 → g27.2 z = h.2 z := fun z hz => (c27 z (by omega)).trans ((hS_n (by omega)).trans (Z26 z hz))
  clear b27 c27 A26 Z26 u26
  simp only [st_0, st_1, st_2, st_3, st_4, st_5, st_6, st_7, st_8, st_9, st_10, st_11, st_12, st_13, st_14, st_15, st_16, st_17, st_18, st_19, st_20, st_21, st_22, st_23, st_24, st_25, st_26, st_27, st_28, st_29, st_30, st_31, st_32, st_33, st_34, st_34a, st_35, st_36, st_37, st_38, st_39, st_42, st_44, st_45, st_47, st_40, st_41, st_46, st_48, st_49, st_43, go_0, go_s, cut_0, cut_s, get_0, get_s, put_0, put_1, put_s, clr_0, clr_s, unl_i, unl_l, unl_r, unl_n, nth_0, nth_s, sf_0, sf_s, cnd_0, cnd_1, cnd_2, cnd_3, cnd_4, cnd_5, fit_0, fit_1, fit_2, en_0, en_i, en_l, en_r, kb_t, kb_f, kb_n, sw_0, sw_s, ↓reduceIte, Nat.reduceEqDiff, Nat.left_eq_add, Nat.add_eq_left, Nat.add_left_cancel_iff, Nat.reduceAdd, Int.reduceLT, Int.reduceLE, Int.reduceAdd, Int.reduceSub, Int.reduceNeg, Int.reduceMul, Int.reduceToNat, Int.reduceEq, reduceCtorEq, true_and, and_true, true_or, or_true, and_false, false_and, or_false, false_or, not_true_eq_false, not_false_eq_true, Nat.le_refl, and_self, Sum.inl.injEq, Sum.inr.injEq, Option.some.injEq, hS_2, k_isref, pd_0, pd_s, List.cons_append, List.nil_append, Option.toList_none, Option.toList_some, tX12_init, rX12_init, u27, hS_hS]
  refine p_nwa 86 32 0 a27 (by omega) (by decide) (fun g28 a28 b28 c28 => p_go [] 80 ?_)
  have u28 := (c28 57 (by decide)).trans (hS_s g27 57 _)
  have A28 : ∀ z, 57 < z → z < 87 → g28.2 z = some (mAr z) := fun z z1 z2 => by
    by_cases e : z = 86
    · rw [e]; exact b28
    · exact (c28 z e).trans ((hS_n (by omega)).trans (A27 z z1 (by omega)))
  have Z28 : ∀ z, z < 57 → g28.2 z = h.2 z := fun z hz => (c28 z (by omega)).trans ((hS_n (by omega)).trans (Z27 z hz))
  clear b28 c28 A27 Z27 u27
  simp only [st_0, st_1, st_2, st_3, st_4, st_5, st_6, st_7, st_8, st_9, st_10, st_11, st_12, st_13, st_14, st_15, st_16, st_17, st_18, st_19, st_20, st_21, st_22, st_23, st_24, st_25, st_26, st_27, st_28, st_29, st_30, st_31, st_32, st_33, st_34, st_34a, st_35, st_36, st_37, st_38, st_39, st_42, st_44, st_45, st_47, st_40, st_41, st_46, st_48, st_49, st_43, go_0, go_s, cut_0, cut_s, get_0, get_s, put_0, put_1, put_s, clr_0, clr_s, unl_i, unl_l, unl_r, unl_n, nth_0, nth_s, sf_0, sf_s, cnd_0, cnd_1, cnd_2, cnd_3, cnd_4, cnd_5, fit_0, fit_1, fit_2, en_0, en_i, en_l, en_r, kb_t, kb_f, kb_n, sw_0, sw_s, ↓reduceIte, Nat.reduceEqDiff, Nat.left_eq_add, Nat.add_eq_left, Nat.add_left_cancel_iff, Nat.reduceAdd, Int.reduceLT, Int.reduceLE, Int.reduceAdd, Int.reduceSub, Int.reduceNeg, Int.reduceMul, Int.reduceToNat, Int.reduceEq, reduceCtorEq, true_and, and_true, true_or, or_true, and_false, false_and, or_false, false_or, not_true_eq_false, not_false_eq_true, Nat.le_refl, and_self, Sum.inl.injEq, Sum.inr.injEq, Option.some.injEq, hS_2, k_isref, pd_0, pd_s, List.cons_append, List.nil_append, Option.toList_none, Option.toList_some, tX12_init, rX12_init, u28, hS_hS]
  refine p_nwa 87 8 0 a28 (by omega) (by decide) (fun g29 a29 b29 c29 => p_go [] 80 ?_)
  have u29 := (c29 57 (by decide)).trans (hS_s g28 57 _)
  have A29 : ∀ z, 57 < z → z < 88 → g29.2 z = some (mAr z) := fun z z1 z2 => by
    by_cases e : z = 87
    · rw [e]; exact b29
    · exact (c29 z e).trans ((hS_n (by omega)).trans (A28 z z1 (by omega)))
  have Z29 : ∀ z, z < 57 → g29.2 z = h.2 z := fun z hz => (c29 z (by omega)).trans ((hS_n (by omega)).trans (Z28 z hz))
  clear b29 c29 A28 Z28 u28
  simp only [st_0, st_1, st_2, st_3, st_4, st_5, st_6, st_7, st_8, st_9, st_10, st_11, st_12, st_13, st_14, st_15, st_16, st_17, st_18, st_19, st_20, st_21, st_22, st_23, st_24, st_25, st_26, st_27, st_28, st_29, st_30, st_31, st_32, st_33, st_34, st_34a, st_35, st_36, st_37, st_38, st_39, st_42, st_44, st_45, st_47, st_40, st_41, st_46, st_48, st_49, st_43, go_0, go_s, cut_0, cut_s, get_0, get_s, put_0, put_1, put_s, clr_0, clr_s, unl_i, unl_l, unl_r, unl_n, nth_0, nth_s, sf_0, sf_s, cnd_0, cnd_1, cnd_2, cnd_3, cnd_4, cnd_5, fit_0, fit_1, fit_2, en_0, en_i, en_l, en_r, kb_t, kb_f, kb_n, sw_0, sw_s, ↓reduceIte, Nat.reduceEqDiff, Nat.left_eq_add, Nat.add_eq_left, Nat.add_left_cancel_iff, Nat.reduceAdd, Int.reduceLT, Int.reduceLE, Int.reduceAdd, Int.reduceSub, Int.reduceNeg, Int.reduceMul, Int.reduceToNat, Int.reduceEq, reduceCtorEq, true_and, and_true, true_or, or_true, and_false, false_and, or_false, false_or, not_true_eq_false, not_false_eq_true, Nat.le_refl, and_self, Sum.inl.injEq, Sum.inr.injEq, Option.some.injEq, hS_2, k_isref, pd_0, pd_s, List.cons_append, List.nil_append, Option.toList_none, Option.toList_some, tX12_init, rX12_init, u29, hS_hS]
  refine p_nwa 88 1024 0 a29 (by omega) (by decide) (fun g30 a30 b30 c30 => p_go [] 80 ?_)
  have u30 := (c30 57 (by decide)).trans (hS_s g29 57 _)
  have A30 : ∀ z, 57 < z → z < 89 → g30.2 z = some (mAr z) := fun z z1 z2 => by
    by_cases e : z = 88
    · rw [e]; exact b30
    · exact (c30 z e).trans ((hS_n (by omega)).trans (A29 z z1 (by omega)))
  have Z30 : ∀ z, z < 57 → g30.2 z = h.2 z := fun z hz => (c30 z (by omega)).trans ((hS_n (by omega)).trans (Z29 z hz))
  clear b30 c30 A29 Z29 u29
  simp only [st_0, st_1, st_2, st_3, st_4, st_5, st_6, st_7, st_8, st_9, st_10, st_11, st_12, st_13, st_14, st_15, st_16, st_17, st_18, st_19, st_20, st_21, st_22, st_23, st_24, st_25, st_26, st_27, st_28, st_29, st_30, st_31, st_32, st_33, st_34, st_34a, st_35, st_36, st_37, st_38, st_39, st_42, st_44, st_45, st_47, st_40, st_41, st_46, st_48, st_49, st_43, go_0, go_s, cut_0, cut_s, get_0, get_s, put_0, put_1, put_s, clr_0, clr_s, unl_i, unl_l, unl_r, unl_n, nth_0, nth_s, sf_0, sf_s, cnd_0, cnd_1, cnd_2, cnd_3, cnd_4, cnd_5, fit_0, fit_1, fit_2, en_0, en_i, en_l, en_r, kb_t, kb_f, kb_n, sw_0, sw_s, ↓reduceIte, Nat.reduceEqDiff, Nat.left_eq_add, Nat.add_eq_left, Nat.add_left_cancel_iff, Nat.reduceAdd, Int.reduceLT, Int.reduceLE, Int.reduceAdd, Int.reduceSub, Int.reduceNeg, Int.reduceMul, Int.reduceToNat, Int.reduceEq, reduceCtorEq, true_and, and_true, true_or, or_true, and_false, false_and, or_false, false_or, not_true_eq_false, not_false_eq_true, Nat.le_refl, and_self, Sum.inl.injEq, Sum.inr.injEq, Option.some.injEq, hS_2, k_isref, pd_0, pd_s, List.cons_append, List.nil_append, Option.toList_none, Option.toList_some, tX12_init, rX12_init, u30, hS_hS]
  refine p_nwa 89 8 0 a30 (by omega) (by decide) (fun g31 a31 b31 c31 => p_go [] 80 ?_)
  have u31 := (c31 57 (by decide)).trans (hS_s g30 57 _)
  have A31 : ∀ z, 57 < z → z < 90 → g31.2 z = some (mAr z) := fun z z1 z2 => by
    by_cases e : z = 89
    · rw [e]; exact b31
    · exact (c31 z e).trans ((hS_n (by omega)).trans (A30 z z1 (by omega)))
  have Z31 : ∀ z, z < 57 → g31.2 z = h.2 z := fun z hz => (c31 z (by omega)).trans ((hS_n (by omega)).trans (Z30 z hz))
  clear b31 c31 A30 Z30 u30
  simp only [st_0, st_1, st_2, st_3, st_4, st_5, st_6, st_7, st_8, st_9, st_10, st_11, st_12, st_13, st_14, st_15, st_16, st_17, st_18, st_19, st_20, st_21, st_22, st_23, st_24, st_25, st_26, st_27, st_28, st_29, st_30, st_31, st_32, st_33, st_34, st_34a, st_35, st_36, st_37, st_38, st_39, st_42, st_44, st_45, st_47, st_40, st_41, st_46, st_48, st_49, st_43, go_0, go_s, cut_0, cut_s, get_0, get_s, put_0, put_1, put_s, clr_0, clr_s, unl_i, unl_l, unl_r, unl_n, nth_0, nth_s, sf_0, sf_s, cnd_0, cnd_1, cnd_2, cnd_3, cnd_4, cnd_5, fit_0, fit_1, fit_2, en_0, en_i, en_l, en_r, kb_t, kb_f, kb_n, sw_0, sw_s, ↓reduceIte, Nat.reduceEqDiff, Nat.left_eq_add, Nat.add_eq_left, Nat.add_left_cancel_iff, Nat.reduceAdd, Int.reduceLT, Int.reduceLE, Int.reduceAdd, Int.reduceSub, Int.reduceNeg, Int.reduceMul, Int.reduceToNat, Int.reduceEq, reduceCtorEq, true_and, and_true, true_or, or_true, and_false, false_and, or_false, false_or, not_true_eq_false, not_false_eq_true, Nat.le_refl, and_self, Sum.inl.injEq, Sum.inr.injEq, Option.some.injEq, hS_2, k_isref, pd_0, pd_s, List.cons_append, List.nil_append, Option.toList_none, Option.toList_some, tX12_init, rX12_init, u31, hS_hS]
  refine p_nwa 90 8 0 a31 (by omega) (by decide) (fun g32 a32 b32 c32 => p_go [294] 80 ?_)
  have u32 := (c32 57 (by decide)).trans (hS_s g31 57 _)
  have A32 : ∀ z, 57 < z → z < 91 → g32.2 z = some (mAr z) := fun z z1 z2 => by
    by_cases e : z = 90
    · rw [e]; exact b32
    · exact (c32 z e).trans ((hS_n (by omega)).trans (A31 z z1 (by omega)))
  have Z32 : ∀ z, z < 57 → g32.2 z = h.2 z := fun z hz => (c32 z (by omega)).trans ((hS_n (by omega)).trans (Z31 z hz))
  clear b32 c32 A31 Z31 u31
  simp only [st_0, st_1, st_2, st_3, st_4, st_5, st_6, st_7, st_8, st_9, st_10, st_11, st_12, st_13, st_14, st_15, st_16, st_17, st_18, st_19, st_20, st_21, st_22, st_23, st_24, st_25, st_26, st_27, st_28, st_29, st_30, st_31, st_32, st_33, st_34, st_34a, st_35, st_36, st_37, st_38, st_39, st_42, st_44, st_45, st_47, st_40, st_41, st_46, st_48, st_49, st_43, go_0, go_s, cut_0, cut_s, get_0, get_s, put_0, put_1, put_s, clr_0, clr_s, unl_i, unl_l, unl_r, unl_n, nth_0, nth_s, sf_0, sf_s, cnd_0, cnd_1, cnd_2, cnd_3, cnd_4, cnd_5, fit_0, fit_1, fit_2, en_0, en_i, en_l, en_r, kb_t, kb_f, kb_n, sw_0, sw_s, ↓reduceIte, Nat.reduceEqDiff, Nat.left_eq_add, Nat.add_eq_left, Nat.add_left_cancel_iff, Nat.reduceAdd, Int.reduceLT, Int.reduceLE, Int.reduceAdd, Int.reduceSub, Int.reduceNeg, Int.reduceMul, Int.reduceToNat, Int.reduceEq, reduceCtorEq, true_and, and_true, true_or, or_true, and_false, false_and, or_false, false_or, not_true_eq_false, not_false_eq_true, Nat.le_refl, and_self, Sum.inl.injEq, Sum.inr.injEq, Option.some.injEq, hS_2, k_isref, pd_0, pd_s, List.cons_append, List.nil_append, Option.toList_none, Option.toList_some, tX12_init, rX12_init, u32, hS_hS]
  have k1 : (hS g32 57 (mO mI0)).2 57 = some (mO mI0) := hS_s _ _ _
  have k2 : (hS g32 57 (mO mI0)).2 58 = some (cI 289 Z_) := (hS_n (by decide)).trans (A32 58 (by decide) (by decide))
  have hw := w_iMod (d := d) (K := 33) (N := 13619) (k := 33) (n := 13619) (P := fun o h' => o = rV ∧ h'.1 = 91 ∧ (∀ z, z < 57 → h'.2 z = h.2 z) ∧ h'.2 57 = some (mO mI0) ∧ h'.2 58 = some (cI 289 c0_) ∧ ∀ z, 58 < z → z < 91 → h'.2 z = some (mAr z)) k1 (by decide) (by decide) ⟨rfl, a32, fun z hz => (hS_n (by omega)).trans ((hS_n (by omega)).trans (Z32 z hz)), (hS_n (by decide)).trans k1, hS_s _ _ _, fun z z1 z2 => (hS_n (by omega)).trans ((hS_n (by omega)).trans (A32 z (by omega) z2))⟩ 289 0 Z_ (by omega) (fun u hu => by omega)
  rw [hS_id k2] at hw
  exact hw
end Mini88
