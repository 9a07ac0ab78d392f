/-! the reference: between, distance, pairs, apart, pair -/
section Mpair71
variable {x : Bool} {d : Nat} {h h0 : PH} {s C : F_} {P : PO → PH → Prop}
/-- the reference, with costs and table; else as it was -/
def Md (h0 h : PH) (s C : F_) : Prop := h.1 = h0.1 ∧ h.2 57 = some (mO s) ∧ Mc h s C ∧ (∃ tb, h.2 60 = some (cI 1681 tb)) ∧ ∀ z, z ≠ 57 → z ≠ 59 → z ≠ 60 → h.2 z = h0.2 z
theorem Md.put {t : F_} (hM : Md h0 h s C) (ht : t 3 = s 3) : Md h0 (hS h 57 (mO t)) t C := by
  obtain ⟨m1, m2, ⟨m3, N, m4, m5⟩, ⟨tb, m6⟩, m7⟩ := hM
  exact ⟨m1, hS_s _ _ _, ⟨(hS_n (by decide)).trans m3, N, (hS_n (by decide)).trans m4, by rw [ht]; exact m5⟩, ⟨tb, (hS_n (by decide)).trans m6⟩, fun z z1 z2 z3 => (hS_n z1).trans (m7 z z1 z2 z3)⟩
set_option maxRecDepth 100000 in
set_option maxHeartbeats 4000000 in
theorem e_mdist' {A B nA nB fr st n m : Nat} {sA sB : F_} (hM : Md h0 h s C) (hc : cOk C) (hA : h0.2 A = some (cI nA sA)) (hB : h0.2 B = some (cI nB sB)) (hA75 : 60 < A) (hB75 : 60 < B) (hfr : fr + n ≤ nA) (hst : st + m ≤ nB) (hnA : nA ≤ 4800) (hnB : nB ≤ 4800) (hn : n ≤ 40) (hm : m ≤ 40) (hvA : rvd sA fr n) (hvB : rvd sB st m) (hsy : symN (fw C)) (hd : 1 ≤ d) :
    k_Ev x d 0 0 mX12_distanceOf [vR 57, vR A, vI fr, vI n, vR B, vI st, vI m] h (fun o h' => o = rI (ds (fw C) (sdf sA fr) n (sdf sB st) m) ∧ Md h0 h' (mS s 3 1) C) := by
  obtain ⟨m1, m2, m3, ⟨tb, m6⟩, m7⟩ := hM
  refine k_Evm ?_ (e_mdist m2 m3 hc m6 ((m7 A (by omega) (by omega) (by omega)).trans hA) ((m7 B (by omega) (by omega) (by omega)).trans hB) hA75 hB75 hfr hst hnA hnB hn hm hvA hvB hsy hd)
  intro o h' ⟨q1, tb', q2⟩
  refine ⟨q1, ?_⟩
  rw [q2]
  refine ⟨m1, ?_, ⟨?_, fw C, ?_, Or.inr ⟨rfl, rfl⟩⟩, ⟨tb', hS_s _ _ _⟩, fun z z1 z2 z3 => ?_⟩
  · exact (hS_n (by decide)).trans ((hS_n (by decide)).trans (hS_s _ _ _))
  · exact (hS_n (by decide)).trans ((hS_n (by decide)).trans ((hS_n (by decide)).trans m3.1))
  · exact (hS_n (by decide)).trans (hS_s _ _ _)
  · exact (hS_n z3).trans ((hS_n z2).trans ((hS_n z1).trans (m7 z z1 z2 z3)))
/-- the reference's commands -/
abbrev gpM (C sd sm : F_) (k l : Nat) : Int := ds (fw C) (sdf sd (40 * k)) (sm k).toNat (sdf sd (40 * l)) (sm l).toNat
def smO (sd sm : F_) (sz : Nat) : Prop := (∀ k, k < sz → 0 ≤ sm k ∧ sm k ≤ 40) ∧ ∀ k, k < sz → rvd sd (40 * k) (sm k)
set_option maxRecDepth 100000 in
set_option maxHeartbeats 4000000 in
theorem e_between {sd sm : F_} {sz k l : Nat} (hM : Md h0 h s C) (hc : cOk C) (h96 : h0.2 81 = some (cI 4800 sd)) (h97 : h0.2 82 = some (cI 120 sm)) (hO : smO sd sm sz) (hsz : sz ≤ 120) (hk : k < sz) (hl : l < sz) (hsy : symN (fw C)) (hd : 2 ≤ d) :
    k_Ev x d 0 0 mX12_between [vR 57, vI k, vI l] h (fun o h' => o = rI (gpM C sd sm k l) ∧ Md h0 h' (mS s 3 1) C) := by
  have k96 := (hM.2.2.2.2 81 (by decide) (by decide) (by decide)).trans h96
  have k97 := (hM.2.2.2.2 82 (by decide) (by decide) (by decide)).trans h97
  have k1 := hM.2.1
  have b1 := hO.1 k hk
  have b2 := hO.1 l hl
  obtain ⟨n, en⟩ : ∃ n : Nat, sm k = (n : Int) := ⟨(sm k).toNat, by omega⟩
  obtain ⟨m, em⟩ : ∃ n : Nat, sm l = (n : Int) := ⟨(sm l).toNat, by omega⟩
  have v1 := hO.2 k hk
  have v2 := hO.2 l hl
  have hev := e_mdist' (x := x) (d := 1) (A := 81) (B := 81) (fr := 40 * k) (st := 40 * l) (n := n) (m := m) hM hc h96 h96 (by decide) (by decide) (by omega) (by omega) (by omega) (by omega) (by omega) (by omega) (by rw [← en]; exact v1) (by rw [← em]; exact v2) hsy (Nat.le_refl 1)
  have e1 : (40 : Int) * k = ((40 * k : Nat) : Int) := by omega
  have e2 : (40 : Int) * l = ((40 * l : Nat) : Int) := by omega
  unfold gpM
  rw [en, em, Int.toNat_natCast, Int.toNat_natCast]
  refine k_enp 0 (Nat.le_of_ble_eq_true rfl) (p_go [] 40 ?_)
  simp only [st_0, st_1, st_2, st_3, st_4, st_5, st_6, st_7, st_8, st_9, st_10, st_11, st_12, st_13, st_14, st_15, st_16, st_17, st_18, st_19, st_20, st_21, st_22, st_23, st_24, st_25, st_26, st_27, st_28, st_29, st_30, st_31, st_32, st_33, st_34, st_34a, st_35, st_36, st_37, st_38, st_39, st_42, st_44, st_45, st_47, st_40, st_41, st_46, st_48, st_49, st_43, go_0, go_s, cut_0, cut_s, get_0, get_s, put_0, put_1, put_s, clr_0, clr_s, unl_i, unl_l, unl_r, unl_n, nth_0, nth_s, sf_0, sf_s, cnd_0, cnd_1, cnd_2, cnd_3, cnd_4, cnd_5, fit_0, fit_1, fit_2, en_0, en_i, en_l, en_r, kb_t, kb_f, kb_n, sw_0, sw_s, ↓reduceIte, Nat.reduceEqDiff, Nat.left_eq_add, Nat.add_eq_left, Nat.add_left_cancel_iff, Nat.reduceAdd, Int.reduceLT, Int.reduceLE, Int.reduceAdd, Int.reduceSub, Int.reduceNeg, Int.reduceMul, Int.reduceToNat, Int.reduceEq, reduceCtorEq, true_and, and_true, true_or, or_true, and_false, false_and, or_false, false_or, not_true_eq_false, not_false_eq_true, Nat.le_refl, and_self, Sum.inl.injEq, Sum.inr.injEq, Option.some.injEq, hS_2, k_isref, pd_0, pd_s, List.cons_append, List.nil_append, Option.toList_none, Option.toList_some, tX12_between, rX12_between, k1, k96, k97, en, em, e1, e2, Int.toNat_natCast]
  refine ⟨⟨by omega, by omega⟩, ⟨by omega, by omega⟩, ⟨by omega, by omega⟩, ⟨by omega, by omega⟩, ?_⟩
  refine cVQ (d' := 1) [vR 81, vI ((40 * k : Nat) : Int), vI n, vR 81, vI ((40 * l : Nat) : Int), vI m] [] l_12_227 k1 hev (by omega) ?_ (fun E h' q => by cases q.1)
  intro r1 h2 ⟨q1, q2⟩
  cases q1
  refine p_go [] 40 ?_
  simp only [st_0, st_1, st_2, st_3, st_4, st_5, st_6, st_7, st_8, st_9, st_10, st_11, st_12, st_13, st_14, st_15, st_16, st_17, st_18, st_19, st_20, st_21, st_22, st_23, st_24, st_25, st_26, st_27, st_28, st_29, st_30, st_31, st_32, st_33, st_34, st_34a, st_35, st_36, st_37, st_38, st_39, st_42, st_44, st_45, st_47, st_40, st_41, st_46, st_48, st_49, st_43, go_0, go_s, cut_0, cut_s, get_0, get_s, put_0, put_1, put_s, clr_0, clr_s, unl_i, unl_l, unl_r, unl_n, nth_0, nth_s, sf_0, sf_s, cnd_0, cnd_1, cnd_2, cnd_3, cnd_4, cnd_5, fit_0, fit_1, fit_2, en_0, en_i, en_l, en_r, kb_t, kb_f, kb_n, sw_0, sw_s, ↓reduceIte, Nat.reduceEqDiff, Nat.left_eq_add, Nat.add_eq_left, Nat.add_left_cancel_iff, Nat.reduceAdd, Int.reduceLT, Int.reduceLE, Int.reduceAdd, Int.reduceSub, Int.reduceNeg, Int.reduceMul, Int.reduceToNat, Int.reduceEq, reduceCtorEq, true_and, and_true, true_or, or_true, and_false, false_and, or_false, false_or, not_true_eq_false, not_false_eq_true, Nat.le_refl, and_self, Sum.inl.injEq, Sum.inr.injEq, Option.some.injEq, hS_2, k_isref, pd_0, pd_s, List.cons_append, List.nil_append, Option.toList_none, Option.toList_some, tX12_between, rX12_between]
  exact q2
set_option maxRecDepth 100000 in
set_option maxHeartbeats 4000000 in
theorem e_mdistance {sd sm : F_} {sz : Nat} {k l : Int} (hM : Md h0 h s C) (hc : cOk C) (h96 : h0.2 81 = some (cI 4800 sd)) (h97 : h0.2 82 = some (cI 120 sm)) (hO : smO sd sm sz) (hsz : sz ≤ 120) (h35 : s 35 = sz) (hsy : symN (fw C)) (hd : 3 ≤ d)
    (c1 : ¬ ((0 ≤ k ∧ k < sz) ∧ 0 ≤ l ∧ l < sz) → P (rI 0) (hS h 57 (mO (mS s 0 1)))) (c2 : 0 ≤ k ∧ k < sz → 0 ≤ l ∧ l < sz → ∀ h', Md h0 h' (mS (mS s 0 0) 3 1) C → P (rI (gpM C sd sm k.toNat l.toNat)) h') :
    k_Ev x d 0 0 mX12_distance [vR 57, vI k, vI l] h P := by
  have h1 := hM.2.1
  rw [← h35] at c1 c2
  refine k_enp 0 (Nat.le_of_ble_eq_true rfl) (p_go [] 40 ?_)
  simp only [st_0, st_1, st_2, st_3, st_4, st_5, st_6, st_7, st_8, st_9, st_10, st_11, st_12, st_13, st_14, st_15, st_16, st_17, st_18, st_19, st_20, st_21, st_22, st_23, st_24, st_25, st_26, st_27, st_28, st_29, st_30, st_31, st_32, st_33, st_34, st_34a, st_35, st_36, st_37, st_38, st_39, st_42, st_44, st_45, st_47, st_40, st_41, st_46, st_48, st_49, st_43, go_0, go_s, cut_0, cut_s, get_0, get_s, put_0, put_1, put_s, clr_0, clr_s, unl_i, unl_l, unl_r, unl_n, nth_0, nth_s, sf_0, sf_s, cnd_0, cnd_1, cnd_2, cnd_3, cnd_4, cnd_5, fit_0, fit_1, fit_2, en_0, en_i, en_l, en_r, kb_t, kb_f, kb_n, sw_0, sw_s, ↓reduceIte, Nat.reduceEqDiff, Nat.left_eq_add, Nat.add_eq_left, Nat.add_left_cancel_iff, Nat.reduceAdd, Int.reduceLT, Int.reduceLE, Int.reduceAdd, Int.reduceSub, Int.reduceNeg, Int.reduceMul, Int.reduceToNat, Int.reduceEq, reduceCtorEq, true_and, and_true, true_or, or_true, and_false, false_and, or_false, false_or, not_true_eq_false, not_false_eq_true, Nat.le_refl, and_self, Sum.inl.injEq, Sum.inr.injEq, Option.some.injEq, hS_2, k_isref, pd_0, pd_s, List.cons_append, List.nil_append, Option.toList_none, Option.toList_some, tX12_distance, rX12_distance]
  refine cV (d' := 0) [vI k] [] l_12_224 h1 (e_isCmd h1) (by omega) (p_go [] 40 ?_)
  by_cases hk : 0 ≤ k ∧ k < s 35
  · rw [if_pos hk, if_pos hk]
    simp only [st_0, st_1, st_2, st_3, st_4, st_5, st_6, st_7, st_8, st_9, st_10, st_11, st_12, st_13, st_14, st_15, st_16, st_17, st_18, st_19, st_20, st_21, st_22, st_23, st_24, st_25, st_26, st_27, st_28, st_29, st_30, st_31, st_32, st_33, st_34, st_34a, st_35, st_36, st_37, st_38, st_39, st_42, st_44, st_45, st_47, st_40, st_41, st_46, st_48, st_49, st_43, go_0, go_s, cut_0, cut_s, get_0, get_s, put_0, put_1, put_s, clr_0, clr_s, unl_i, unl_l, unl_r, unl_n, nth_0, nth_s, sf_0, sf_s, cnd_0, cnd_1, cnd_2, cnd_3, cnd_4, cnd_5, fit_0, fit_1, fit_2, en_0, en_i, en_l, en_r, kb_t, kb_f, kb_n, sw_0, sw_s, ↓reduceIte, Nat.reduceEqDiff, Nat.left_eq_add, Nat.add_eq_left, Nat.add_left_cancel_iff, Nat.reduceAdd, Int.reduceLT, Int.reduceLE, Int.reduceAdd, Int.reduceSub, Int.reduceNeg, Int.reduceMul, Int.reduceToNat, Int.reduceEq, reduceCtorEq, true_and, and_true, true_or, or_true, and_false, false_and, or_false, false_or, not_true_eq_false, not_false_eq_true, Nat.le_refl, and_self, Sum.inl.injEq, Sum.inr.injEq, Option.some.injEq, hS_2, k_isref, pd_0, pd_s, List.cons_append, List.nil_append, Option.toList_none, Option.toList_some, tX12_distance, rX12_distance]
    have k1 : (hS h 57 (mO (mS s 0 0))).2 57 = some (mO (mS s 0 0)) := hS_s _ _ _
    refine cV (d' := 0) [vI l] [] l_12_224 k1 (e_isCmd k1) (by omega) (p_go [] 40 ?_)
    change k_go _ _ _ _ _ _ _ _ _ _ _ _ [vI (if 0 ≤ l ∧ l < s 35 then 1 else 0)] (hS (hS h 57 (mO (mS s 0 0))) 57 (mO (mS (mS s 0 0) 0 (if 0 ≤ l ∧ l < s 35 then 0 else 1))))
    by_cases hl : 0 ≤ l ∧ l < s 35
    · rw [if_pos hl, if_pos hl, hS_hS, mS_mS]
      obtain ⟨kn, ek⟩ : ∃ n : Nat, k = (n : Int) := ⟨k.toNat, by omega⟩
      obtain ⟨ln, el⟩ : ∃ n : Nat, l = (n : Int) := ⟨l.toNat, by omega⟩
      subst ek
      subst el
      have hc2 := c2 hk hl
      simp only [Int.toNat_natCast] at hc2
      simp only [st_0, st_1, st_2, st_3, st_4, st_5, st_6, st_7, st_8, st_9, st_10, st_11, st_12, st_13, st_14, st_15, st_16, st_17, st_18, st_19, st_20, st_21, st_22, st_23, st_24, st_25, st_26, st_27, st_28, st_29, st_30, st_31, st_32, st_33, st_34, st_34a, st_35, st_36, st_37, st_38, st_39, st_42, st_44, st_45, st_47, st_40, st_41, st_46, st_48, st_49, st_43, go_0, go_s, cut_0, cut_s, get_0, get_s, put_0, put_1, put_s, clr_0, clr_s, unl_i, unl_l, unl_r, unl_n, nth_0, nth_s, sf_0, sf_s, cnd_0, cnd_1, cnd_2, cnd_3, cnd_4, cnd_5, fit_0, fit_1, fit_2, en_0, en_i, en_l, en_r, kb_t, kb_f, kb_n, sw_0, sw_s, ↓reduceIte, Nat.reduceEqDiff, Nat.left_eq_add, Nat.add_eq_left, Nat.add_left_cancel_iff, Nat.reduceAdd, Int.reduceLT, Int.reduceLE, Int.reduceAdd, Int.reduceSub, Int.reduceNeg, Int.reduceMul, Int.reduceToNat, Int.reduceEq, reduceCtorEq, true_and, and_true, true_or, or_true, and_false, false_and, or_false, false_or, not_true_eq_false, not_false_eq_true, Nat.le_refl, and_self, Sum.inl.injEq, Sum.inr.injEq, Option.some.injEq, hS_2, k_isref, pd_0, pd_s, List.cons_append, List.nil_append, Option.toList_none, Option.toList_some, tX12_distance, rX12_distance]
      refine cVQ (d' := 2) [vI kn, vI ln] [] l_12_231 k1 (e_between (hM.put (t := mS s 0 0) rfl) hc h96 h97 hO hsz (by omega) (by omega) hsy (Nat.le_refl 2)) (by omega) ?_ (fun E h' q => by cases q.1)
      intro r1 h2 ⟨q1, q2⟩
      cases q1
      refine p_go [] 40 ?_
      simp only [st_0, st_1, st_2, st_3, st_4, st_5, st_6, st_7, st_8, st_9, st_10, st_11, st_12, st_13, st_14, st_15, st_16, st_17, st_18, st_19, st_20, st_21, st_22, st_23, st_24, st_25, st_26, st_27, st_28, st_29, st_30, st_31, st_32, st_33, st_34, st_34a, st_35, st_36, st_37, st_38, st_39, st_42, st_44, st_45, st_47, st_40, st_41, st_46, st_48, st_49, st_43, go_0, go_s, cut_0, cut_s, get_0, get_s, put_0, put_1, put_s, clr_0, clr_s, unl_i, unl_l, unl_r, unl_n, nth_0, nth_s, sf_0, sf_s, cnd_0, cnd_1, cnd_2, cnd_3, cnd_4, cnd_5, fit_0, fit_1, fit_2, en_0, en_i, en_l, en_r, kb_t, kb_f, kb_n, sw_0, sw_s, ↓reduceIte, Nat.reduceEqDiff, Nat.left_eq_add, Nat.add_eq_left, Nat.add_left_cancel_iff, Nat.reduceAdd, Int.reduceLT, Int.reduceLE, Int.reduceAdd, Int.reduceSub, Int.reduceNeg, Int.reduceMul, Int.reduceToNat, Int.reduceEq, reduceCtorEq, true_and, and_true, true_or, or_true, and_false, false_and, or_false, false_or, not_true_eq_false, not_false_eq_true, Nat.le_refl, and_self, Sum.inl.injEq, Sum.inr.injEq, Option.some.injEq, hS_2, k_isref, pd_0, pd_s, List.cons_append, List.nil_append, Option.toList_none, Option.toList_some, tX12_distance, rX12_distance]
      exact hc2 h2 q2
    · rw [if_neg hl, if_neg hl, hS_hS, mS_mS]
      simp only [st_0, st_1, st_2, st_3, st_4, st_5, st_6, st_7, st_8, st_9, st_10, st_11, st_12, st_13, st_14, st_15, st_16, st_17, st_18, st_19, st_20, st_21, st_22, st_23, st_24, st_25, st_26, st_27, st_28, st_29, st_30, st_31, st_32, st_33, st_34, st_34a, st_35, st_36, st_37, st_38, st_39, st_42, st_44, st_45, st_47, st_40, st_41, st_46, st_48, st_49, st_43, go_0, go_s, cut_0, cut_s, get_0, get_s, put_0, put_1, put_s, clr_0, clr_s, unl_i, unl_l, unl_r, unl_n, nth_0, nth_s, sf_0, sf_s, cnd_0, cnd_1, cnd_2, cnd_3, cnd_4, cnd_5, fit_0, fit_1, fit_2, en_0, en_i, en_l, en_r, kb_t, kb_f, kb_n, sw_0, sw_s, ↓reduceIte, Nat.reduceEqDiff, Nat.left_eq_add, Nat.add_eq_left, Nat.add_left_cancel_iff, Nat.reduceAdd, Int.reduceLT, Int.reduceLE, Int.reduceAdd, Int.reduceSub, Int.reduceNeg, Int.reduceMul, Int.reduceToNat, Int.reduceEq, reduceCtorEq, true_and, and_true, true_or, or_true, and_false, false_and, or_false, false_or, not_true_eq_false, not_false_eq_true, Nat.le_refl, and_self, Sum.inl.injEq, Sum.inr.injEq, Option.some.injEq, hS_2, k_isref, pd_0, pd_s, List.cons_append, List.nil_append, Option.toList_none, Option.toList_some, tX12_distance, rX12_distance]
      exact c1 (fun w => hl w.2)
  · rw [if_neg hk, if_neg hk]
    simp only [st_0, st_1, st_2, st_3, st_4, st_5, st_6, st_7, st_8, st_9, st_10, st_11, st_12, st_13, st_14, st_15, st_16, st_17, st_18, st_19, st_20, st_21, st_22, st_23, st_24, st_25, st_26, st_27, st_28, st_29, st_30, st_31, st_32, st_33, st_34, st_34a, st_35, st_36, st_37, st_38, st_39, st_42, st_44, st_45, st_47, st_40, st_41, st_46, st_48, st_49, st_43, go_0, go_s, cut_0, cut_s, get_0, get_s, put_0, put_1, put_s, clr_0, clr_s, unl_i, unl_l, unl_r, unl_n, nth_0, nth_s, sf_0, sf_s, cnd_0, cnd_1, cnd_2, cnd_3, cnd_4, cnd_5, fit_0, fit_1, fit_2, en_0, en_i, en_l, en_r, kb_t, kb_f, kb_n, sw_0, sw_s, ↓reduceIte, Nat.reduceEqDiff, Nat.left_eq_add, Nat.add_eq_left, Nat.add_left_cancel_iff, Nat.reduceAdd, Int.reduceLT, Int.reduceLE, Int.reduceAdd, Int.reduceSub, Int.reduceNeg, Int.reduceMul, Int.reduceToNat, Int.reduceEq, reduceCtorEq, true_and, and_true, true_or, or_true, and_false, false_and, or_false, false_or, not_true_eq_false, not_false_eq_true, Nat.le_refl, and_self, Sum.inl.injEq, Sum.inr.injEq, Option.some.injEq, hS_2, k_isref, pd_0, pd_s, List.cons_append, List.nil_append, Option.toList_none, Option.toList_some, tX12_distance, rX12_distance]
    exact c1 (fun w => hk w.1)
/-- pairs, one by one: how far, the lower, the other -/
def prL (gp : Nat → Int) (k : Nat) : Nat → Nat → Int × Int × Int → Int × Int × Int
  | 0, _, S => S
  | j + 1, o, S => prL gp k j (o + 1) (if 0 ≤ S.1 ∧ S.1 ≤ gp o then S else (gp o, (k : Int), (o : Int)))
def prP (gp : Nat → Nat → Int) (sz : Nat) : Nat → Nat → Int × Int × Int → Int × Int × Int
  | 0, _, S => S
  | j + 1, k, S => prP gp sz j (k + 1) (prL (gp k) k (sz - (k + 1)) (k + 1) S)
def pE (s t : F_) (S : Int × Int × Int) : Prop := t 42 = S.2.1 ∧ t 43 = S.2.2 ∧ t 44 = S.1 ∧ ∀ i, i ≠ 3 → i ≠ 42 → i ≠ 43 → i ≠ 44 → t i = s i
set_option maxRecDepth 100000 in
set_option maxHeartbeats 4000000 in
theorem w_pairL {sd sm : F_} {sz k : Nat} (hc : cOk C) (h96 : h0.2 81 = some (cI 4800 sd)) (h97 : h0.2 82 = some (cI 120 sm)) (hO : smO sd sm sz) (hsz : sz ≤ 120) (h35 : s 35 = sz) (hsy : symN (fw C)) (hd : 3 ≤ d) (hk : k < sz)
    (Q : Int × Int × Int → Prop) (hQ : ∀ S h t, Q S → Md h0 h t C → pE s t S → k_Wp x d 0 0 mX12_pairs P 0 0 83 [some (vR 57), some (vI k), none, none] [] h) : ∀ (j l : Nat) (S : Int × Int × Int) (h : PH) (t : F_), l + j = sz → Md h0 h t C → pE s t S → Q (prL (gpM C sd sm k) k j l S) →
    k_Wp x d 0 0 mX12_pairs P 0 0 29 [some (vR 57), some (vI k), some (vI l), none] [] h := by
  intro j
  induction j with
  | zero =>
    intro l S h t hl hM hE hq
    have h1 := hM.2.1
    have e35 : t 35 = sz := (hE.2.2.2 35 (by decide) (by decide) (by decide) (by decide)).trans h35
    have e1 : t 35 ≤ (l : Int) := by omega
    refine p_go [83] 40 ?_
    simp only [st_0, st_1, st_2, st_3, st_4, st_5, st_6, st_7, st_8, st_9, st_10, st_11, st_12, st_13, st_14, st_15, st_16, st_17, st_18, st_19, st_20, st_21, st_22, st_23, st_24, st_25, st_26, st_27, st_28, st_29, st_30, st_31, st_32, st_33, st_34, st_34a, st_35, st_36, st_37, st_38, st_39, st_42, st_44, st_45, st_47, st_40, st_41, st_46, st_48, st_49, st_43, go_0, go_s, cut_0, cut_s, get_0, get_s, put_0, put_1, put_s, clr_0, clr_s, unl_i, unl_l, unl_r, unl_n, nth_0, nth_s, sf_0, sf_s, cnd_0, cnd_1, cnd_2, cnd_3, cnd_4, cnd_5, fit_0, fit_1, fit_2, en_0, en_i, en_l, en_r, kb_t, kb_f, kb_n, sw_0, sw_s, ↓reduceIte, Nat.reduceEqDiff, Nat.left_eq_add, Nat.add_eq_left, Nat.add_left_cancel_iff, Nat.reduceAdd, Int.reduceLT, Int.reduceLE, Int.reduceAdd, Int.reduceSub, Int.reduceNeg, Int.reduceMul, Int.reduceToNat, Int.reduceEq, reduceCtorEq, true_and, and_true, true_or, or_true, and_false, false_and, or_false, false_or, not_true_eq_false, not_false_eq_true, Nat.le_refl, and_self, Sum.inl.injEq, Sum.inr.injEq, Option.some.injEq, hS_2, k_isref, pd_0, pd_s, List.cons_append, List.nil_append, Option.toList_none, Option.toList_some, tX12_pairs, rX12_pairs, h1, e1]
    exact p_sub (by (repeat (first | exact le_nil | refine le_s ?_ | refine le_n ?_))) (hQ S h t hq hM hE)
  | succ j ih =>
    intro l S h t hl hM hE hq
    have h1 := hM.2.1
    have e35 : t 35 = sz := (hE.2.2.2 35 (by decide) (by decide) (by decide) (by decide)).trans h35
    have e1 : ¬ t 35 ≤ (l : Int) := by omega
    unfold prL at hq
    refine p_go [] 40 ?_
    simp only [st_0, st_1, st_2, st_3, st_4, st_5, st_6, st_7, st_8, st_9, st_10, st_11, st_12, st_13, st_14, st_15, st_16, st_17, st_18, st_19, st_20, st_21, st_22, st_23, st_24, st_25, st_26, st_27, st_28, st_29, st_30, st_31, st_32, st_33, st_34, st_34a, st_35, st_36, st_37, st_38, st_39, st_42, st_44, st_45, st_47, st_40, st_41, st_46, st_48, st_49, st_43, go_0, go_s, cut_0, cut_s, get_0, get_s, put_0, put_1, put_s, clr_0, clr_s, unl_i, unl_l, unl_r, unl_n, nth_0, nth_s, sf_0, sf_s, cnd_0, cnd_1, cnd_2, cnd_3, cnd_4, cnd_5, fit_0, fit_1, fit_2, en_0, en_i, en_l, en_r, kb_t, kb_f, kb_n, sw_0, sw_s, ↓reduceIte, Nat.reduceEqDiff, Nat.left_eq_add, Nat.add_eq_left, Nat.add_left_cancel_iff, Nat.reduceAdd, Int.reduceLT, Int.reduceLE, Int.reduceAdd, Int.reduceSub, Int.reduceNeg, Int.reduceMul, Int.reduceToNat, Int.reduceEq, reduceCtorEq, true_and, and_true, true_or, or_true, and_false, false_and, or_false, false_or, not_true_eq_false, not_false_eq_true, Nat.le_refl, and_self, Sum.inl.injEq, Sum.inr.injEq, Option.some.injEq, hS_2, k_isref, pd_0, pd_s, List.cons_append, List.nil_append, Option.toList_none, Option.toList_some, tX12_pairs, rX12_pairs, h1, e1]
    refine cVQ (d' := 2) [vI k, vI l] [] l_12_231 h1 (e_between hM hc h96 h97 hO hsz hk (by omega) hsy (Nat.le_refl 2)) (by omega) ?_ (fun E h' q => by cases q.1)
    intro r1 h2 ⟨q1, q2⟩
    cases q1
    have k1 := q2.2.1
    obtain ⟨p1, p2, p3, p4⟩ := hE
    have f44 : mS t 3 1 44 = S.1 := p3
    generalize gpM C sd sm k l = v at hq ⊢
    refine p_go [29] 40 ?_
    by_cases hv : 0 ≤ S.1 ∧ S.1 ≤ v
    · rw [if_pos hv] at hq
      have g1 : ¬ S.1 < 0 := by omega
      have g2 : ¬ v < S.1 := by omega
      simp only [st_0, st_1, st_2, st_3, st_4, st_5, st_6, st_7, st_8, st_9, st_10, st_11, st_12, st_13, st_14, st_15, st_16, st_17, st_18, st_19, st_20, st_21, st_22, st_23, st_24, st_25, st_26, st_27, st_28, st_29, st_30, st_31, st_32, st_33, st_34, st_34a, st_35, st_36, st_37, st_38, st_39, st_42, st_44, st_45, st_47, st_40, st_41, st_46, st_48, st_49, st_43, go_0, go_s, cut_0, cut_s, get_0, get_s, put_0, put_1, put_s, clr_0, clr_s, unl_i, unl_l, unl_r, unl_n, nth_0, nth_s, sf_0, sf_s, cnd_0, cnd_1, cnd_2, cnd_3, cnd_4, cnd_5, fit_0, fit_1, fit_2, en_0, en_i, en_l, en_r, kb_t, kb_f, kb_n, sw_0, sw_s, ↓reduceIte, Nat.reduceEqDiff, Nat.left_eq_add, Nat.add_eq_left, Nat.add_left_cancel_iff, Nat.reduceAdd, Int.reduceLT, Int.reduceLE, Int.reduceAdd, Int.reduceSub, Int.reduceNeg, Int.reduceMul, Int.reduceToNat, Int.reduceEq, reduceCtorEq, true_and, and_true, true_or, or_true, and_false, false_and, or_false, false_or, not_true_eq_false, not_false_eq_true, Nat.le_refl, and_self, Sum.inl.injEq, Sum.inr.injEq, Option.some.injEq, hS_2, k_isref, pd_0, pd_s, List.cons_append, List.nil_append, Option.toList_none, Option.toList_some, tX12_pairs, rX12_pairs, k1, f44, g1, g2, nat1]
      refine ⟨⟨by omega, by omega⟩, p_sub (by (repeat (first | exact le_nil | refine le_s ?_ | refine le_n ?_))) (ih (l + 1) S h2 (mS t 3 1) (by omega) q2 ⟨p1, p2, p3, fun i i1 i2 i3 i4 => (mS_n i1).trans (p4 i i1 i2 i3 i4)⟩ hq)⟩
    · rw [if_neg hv] at hq
      have hl := ih (l + 1) (v, k, l) (hS h2 57 (mO (mS (mS (mS (mS t 3 1) 42 k) 43 l) 44 v))) (mS (mS (mS (mS t 3 1) 42 k) 43 l) 44 v) (by omega) (q2.put rfl) ⟨rfl, rfl, rfl, fun i i1 i2 i3 i4 => (mS_n i4).trans ((mS_n i3).trans ((mS_n i2).trans ((mS_n i1).trans (p4 i i1 i2 i3 i4))))⟩ hq
      simp only [st_0, st_1, st_2, st_3, st_4, st_5, st_6, st_7, st_8, st_9, st_10, st_11, st_12, st_13, st_14, st_15, st_16, st_17, st_18, st_19, st_20, st_21, st_22, st_23, st_24, st_25, st_26, st_27, st_28, st_29, st_30, st_31, st_32, st_33, st_34, st_34a, st_35, st_36, st_37, st_38, st_39, st_42, st_44, st_45, st_47, st_40, st_41, st_46, st_48, st_49, st_43, go_0, go_s, cut_0, cut_s, get_0, get_s, put_0, put_1, put_s, clr_0, clr_s, unl_i, unl_l, unl_r, unl_n, nth_0, nth_s, sf_0, sf_s, cnd_0, cnd_1, cnd_2, cnd_3, cnd_4, cnd_5, fit_0, fit_1, fit_2, en_0, en_i, en_l, en_r, kb_t, kb_f, kb_n, sw_0, sw_s, ↓reduceIte, Nat.reduceEqDiff, Nat.left_eq_add, Nat.add_eq_left, Nat.add_left_cancel_iff, Nat.reduceAdd, Int.reduceLT, Int.reduceLE, Int.reduceAdd, Int.reduceSub, Int.reduceNeg, Int.reduceMul, Int.reduceToNat, Int.reduceEq, reduceCtorEq, true_and, and_true, true_or, or_true, and_false, false_and, or_false, false_or, not_true_eq_false, not_false_eq_true, Nat.le_refl, and_self, Sum.inl.injEq, Sum.inr.injEq, Option.some.injEq, hS_2, k_isref, pd_0, pd_s, List.cons_append, List.nil_append, Option.toList_none, Option.toList_some, tX12_pairs, rX12_pairs, k1, f44, nat1, hS_hS]
      refine k_brI (fun g => ?_) (fun g => k_brI (fun g2 => ?_) (fun g2 => by omega))
      · exact ⟨⟨by omega, by omega⟩, p_sub (by (repeat (first | exact le_nil | refine le_s ?_ | refine le_n ?_))) hl⟩
      · exact ⟨⟨by omega, by omega⟩, p_sub (by (repeat (first | exact le_nil | refine le_s ?_ | refine le_n ?_))) hl⟩
end Mpair71
