/-! Lexicon.tell -/
section Tell27
variable {x : Bool} {d : Nat} {h : PH} {q most ml w sz : Nat} {cs ls lf sf : F_}
theorem Lx.off {a : Nat} {c : PC} (hL : Lx h q most ml w sz cs ls lf sf) (ha : a < q ∨ q + 5 < a) : Lx (hS h a c) q most ml w sz cs ls lf sf := by
  obtain ⟨h1, h2, h3, h4⟩ := hL
  exact ⟨(hS_n (by omega)).trans h1, (hS_n (by omega)).trans h2, (hS_n (by omega)).trans h3, h4.off (by omega) (by omega) (by omega)⟩
/-- what a lexicon is behind tell -/
def tellK (cs : F_) (c : Int) (sz : Nat) : Nat := if fnd cs c 0 sz = -1 then sz else (fnd cs c 0 sz).toNat
/-- the heap behind tell: entry k told -/
def tlH (h : PH) (q most ml w : Nat) (lf sf lf' sf' : F_) (w' k sz' : Nat) (cs' ls' : F_) : PH := hS (hS (hS (hS (hS h q (cO 3 [vI ml, vR (q + 1), vR (q + 2), vR (q + 3), vI (sz' : Nat)])) (q + 1) (.inl (3, most, cs'))) (q + 2) (cI most ls')) (q + 3 + 2) (cI (most * w) (va_cpy sf' sf (0 * w') (k * w) (jn w 0 (lf' 0)).toNat))) (q + 3 + 1) (cI most (fS lf k (jn w 0 (lf' 0))))
set_option maxRecDepth 100000 in
set_option maxHeartbeats 4000000 in
theorem e_tell {q' w' n' : Nat} {lf' sf' : F_} {c : Int} {nl : Nat} {P : PO → PH → Prop} (hL : Lx h q most ml w sz cs ls lf sf) (hW : RwW w most lf) (hsz : sz ≤ most) (hm : most < 1000) (hR' : Rw h q' w' n' lf' sf') (hW' : RwW w' n' lf') (hn' : 0 < n') (hq : q' + 2 < q) (hd : 3 ≤ d) (hnl : nl ≤ 400)
    (c1 : fnd cs c 0 sz = -1 → sz = most → P (rI (-2)) h)
    (c2 : fnd cs c 0 sz = -1 → sz < most → P (rI (sz + 1 : Nat)) (tlH h q most ml w lf sf lf' sf' w' sz (sz + 1) (fS cs sz c) (fS ls sz nl)))
    (c3 : ∀ k : Nat, fnd cs c 0 sz = k → k < sz → P (rI sz) (tlH h q most ml w lf sf lf' sf' w' k sz cs ls)) : k_Ev x d 0 0 mX3_tell [vR q, vL c, vI nl, vR q'] h P := by
  have hL0 := hL
  obtain ⟨h1, h2, h3, h4⟩ := hL
  refine k_enp 1 (Nat.le_of_ble_eq_true rfl) (p_go [] 40 ?_)
  simp only [st_0, st_1, st_2, st_3, st_4, st_5, st_6, st_7, st_8, st_9, st_10, st_11, st_12, st_13, st_14, st_15, st_16, st_17, st_18, st_19, st_20, st_21, st_22, st_23, st_24, st_25, st_26, st_27, st_28, st_29, st_30, st_31, st_32, st_33, st_34, st_34a, st_35, st_36, st_37, st_38, st_39, st_42, st_44, st_45, st_47, st_40, st_41, st_46, st_48, st_49, st_43, go_0, go_s, cut_0, cut_s, get_0, get_s, put_0, put_1, put_s, clr_0, clr_s, unl_i, unl_l, unl_r, unl_n, nth_0, nth_s, sf_0, sf_s, cnd_0, cnd_1, cnd_2, cnd_3, cnd_4, cnd_5, fit_0, fit_1, fit_2, en_0, en_i, en_l, en_r, kb_t, kb_f, kb_n, sw_0, sw_s, ↓reduceIte, Nat.reduceEqDiff, Nat.left_eq_add, Nat.add_eq_left, Nat.add_left_cancel_iff, Nat.reduceAdd, Int.reduceLT, Int.reduceLE, Int.reduceAdd, Int.reduceSub, Int.reduceNeg, Int.reduceMul, Int.reduceToNat, Int.reduceEq, reduceCtorEq, true_and, and_true, true_or, or_true, and_false, false_and, or_false, false_or, not_true_eq_false, not_false_eq_true, Nat.le_refl, and_self, Sum.inl.injEq, Sum.inr.injEq, Option.some.injEq, hS_2, k_isref, pd_0, pd_s, List.cons_append, List.nil_append, Option.toList_none, Option.toList_some, tX3_tell, rX3_tell, h1]
  refine cV (d' := 0) [vL c] [] l_3_39 h1 (e_find hL0 hsz hm c) (by omega) (p_go [60] 60 ?_)
  simp only [st_0, st_1, st_2, st_3, st_4, st_5, st_6, st_7, st_8, st_9, st_10, st_11, st_12, st_13, st_14, st_15, st_16, st_17, st_18, st_19, st_20, st_21, st_22, st_23, st_24, st_25, st_26, st_27, st_28, st_29, st_30, st_31, st_32, st_33, st_34, st_34a, st_35, st_36, st_37, st_38, st_39, st_42, st_44, st_45, st_47, st_40, st_41, st_46, st_48, st_49, st_43, go_0, go_s, cut_0, cut_s, get_0, get_s, put_0, put_1, put_s, clr_0, clr_s, unl_i, unl_l, unl_r, unl_n, nth_0, nth_s, sf_0, sf_s, cnd_0, cnd_1, cnd_2, cnd_3, cnd_4, cnd_5, fit_0, fit_1, fit_2, en_0, en_i, en_l, en_r, kb_t, kb_f, kb_n, sw_0, sw_s, ↓reduceIte, Nat.reduceEqDiff, Nat.left_eq_add, Nat.add_eq_left, Nat.add_left_cancel_iff, Nat.reduceAdd, Int.reduceLT, Int.reduceLE, Int.reduceAdd, Int.reduceSub, Int.reduceNeg, Int.reduceMul, Int.reduceToNat, Int.reduceEq, reduceCtorEq, true_and, and_true, true_or, or_true, and_false, false_and, or_false, false_or, not_true_eq_false, not_false_eq_true, Nat.le_refl, and_self, Sum.inl.injEq, Sum.inr.injEq, Option.some.injEq, hS_2, k_isref, pd_0, pd_s, List.cons_append, List.nil_append, Option.toList_none, Option.toList_some, tX3_tell, rX3_tell, h1, h2, h3]
  have go : ∀ (k sz' : Nat) (cs' ls' : F_), k < most → P (rI sz') (tlH h q most ml w lf sf lf' sf' w' k sz' cs' ls') →
      k_Wp x d 0 0 mX3_tell P 0 0 60 [some (vR q), some (vL c), none, some (vI nl), some (vR q'), some (vI k)] [] (hS (hS (hS h q (cO 3 [vI ml, vR (q + 1), vR (q + 2), vR (q + 3), vI (sz' : Nat)])) (q + 1) (.inl (3, most, cs'))) (q + 2) (cI most ls')) := by
    intro k sz' cs' ls' hk hP
    have hLk : Lx (hS (hS (hS h q (cO 3 [vI ml, vR (q + 1), vR (q + 2), vR (q + 3), vI (sz' : Nat)])) (q + 1) (.inl (3, most, cs'))) (q + 2) (cI most ls')) q most ml w sz' cs' ls' lf sf := by
      refine ⟨(hS_n (by omega)).trans ((hS_n (by omega)).trans (hS_s _ _ _)), (hS_n (by omega)).trans (hS_s _ _ _), hS_s _ _ _, ?_⟩
      exact ((h4.off (by omega) (by omega) (by omega)).off (by omega) (by omega) (by omega)).off (by omega) (by omega) (by omega)
    unfold tlH at hP
    generalize hh : hS (hS (hS h q (cO 3 [vI ml, vR (q + 1), vR (q + 2), vR (q + 3), vI (sz' : Nat)])) (q + 1) (.inl (3, most, cs'))) (q + 2) (cI most ls') = hk2 at hLk hP ⊢
    have hRk : Rw hk2 q' w' n' lf' sf' := by
      rw [← hh]
      exact ((hR'.off (by omega) (by omega) (by omega)).off (by omega) (by omega) (by omega)).off (by omega) (by omega) (by omega)
    obtain ⟨k1, k2, k3, k4⟩ := hLk
    refine p_go [] 40 ?_
    simp only [st_0, st_1, st_2, st_3, st_4, st_5, st_6, st_7, st_8, st_9, st_10, st_11, st_12, st_13, st_14, st_15, st_16, st_17, st_18, st_19, st_20, st_21, st_22, st_23, st_24, st_25, st_26, st_27, st_28, st_29, st_30, st_31, st_32, st_33, st_34, st_34a, st_35, st_36, st_37, st_38, st_39, st_42, st_44, st_45, st_47, st_40, st_41, st_46, st_48, st_49, st_43, go_0, go_s, cut_0, cut_s, get_0, get_s, put_0, put_1, put_s, clr_0, clr_s, unl_i, unl_l, unl_r, unl_n, nth_0, nth_s, sf_0, sf_s, cnd_0, cnd_1, cnd_2, cnd_3, cnd_4, cnd_5, fit_0, fit_1, fit_2, en_0, en_i, en_l, en_r, kb_t, kb_f, kb_n, sw_0, sw_s, ↓reduceIte, Nat.reduceEqDiff, Nat.left_eq_add, Nat.add_eq_left, Nat.add_left_cancel_iff, Nat.reduceAdd, Int.reduceLT, Int.reduceLE, Int.reduceAdd, Int.reduceSub, Int.reduceNeg, Int.reduceMul, Int.reduceToNat, Int.reduceEq, reduceCtorEq, true_and, and_true, true_or, or_true, and_false, false_and, or_false, false_or, not_true_eq_false, not_false_eq_true, Nat.le_refl, and_self, Sum.inl.injEq, Sum.inr.injEq, Option.some.injEq, hS_2, k_isref, pd_0, pd_s, List.cons_append, List.nil_append, Option.toList_none, Option.toList_some, tX3_tell, rX3_tell, k1]
    refine cV (d' := 2) [vI k, vR q', vI (0 : Nat)] [] l_3_43 k4.1 (e_copy k4 hW hk hRk hW' hn' (by decide) (Or.inl (by omega))) (by omega) (p_go [] 40 ?_)
    have k5 : (hS (hS hk2 (q + 3 + 2) (cI (most * w) (va_cpy sf' sf (0 * w') (k * w) (jn w 0 (lf' 0)).toNat))) (q + 3 + 1) (cI most (fS lf k (jn w 0 (lf' 0))))).2 q = some (cO 3 [vI ml, vR (q + 1), vR (q + 2), vR (q + 3), vI (sz' : Nat)]) := (hS_n (by omega)).trans ((hS_n (by omega)).trans k1)
    generalize hS (hS hk2 (q + 3 + 2) (cI (most * w) (va_cpy sf' sf (0 * w') (k * w) (jn w 0 (lf' 0)).toNat))) (q + 3 + 1) (cI most (fS lf k (jn w 0 (lf' 0)))) = hk3 at k5 hP ⊢
    simp only [st_0, st_1, st_2, st_3, st_4, st_5, st_6, st_7, st_8, st_9, st_10, st_11, st_12, st_13, st_14, st_15, st_16, st_17, st_18, st_19, st_20, st_21, st_22, st_23, st_24, st_25, st_26, st_27, st_28, st_29, st_30, st_31, st_32, st_33, st_34, st_34a, st_35, st_36, st_37, st_38, st_39, st_42, st_44, st_45, st_47, st_40, st_41, st_46, st_48, st_49, st_43, go_0, go_s, cut_0, cut_s, get_0, get_s, put_0, put_1, put_s, clr_0, clr_s, unl_i, unl_l, unl_r, unl_n, nth_0, nth_s, sf_0, sf_s, cnd_0, cnd_1, cnd_2, cnd_3, cnd_4, cnd_5, fit_0, fit_1, fit_2, en_0, en_i, en_l, en_r, kb_t, kb_f, kb_n, sw_0, sw_s, ↓reduceIte, Nat.reduceEqDiff, Nat.left_eq_add, Nat.add_eq_left, Nat.add_left_cancel_iff, Nat.reduceAdd, Int.reduceLT, Int.reduceLE, Int.reduceAdd, Int.reduceSub, Int.reduceNeg, Int.reduceMul, Int.reduceToNat, Int.reduceEq, reduceCtorEq, true_and, and_true, true_or, or_true, and_false, false_and, or_false, false_or, not_true_eq_false, not_false_eq_true, Nat.le_refl, and_self, Sum.inl.injEq, Sum.inr.injEq, Option.some.injEq, hS_2, k_isref, pd_0, pd_s, List.cons_append, List.nil_append, Option.toList_none, Option.toList_some, tX3_tell, rX3_tell, k5]
    exact hP
  rcases fnd_b cs c sz 0 with hf | ⟨k, f1, f2, f3, f4⟩
  · refine k_brT hf ?_
    refine k_brI (fun hlt => ?_) (fun hge => c1 hf (by omega))
    have hg := go sz (sz + 1) (fS cs sz c) (fS ls sz nl) (by omega) (c2 hf (by omega))
    rw [← nat1] at hg
    simp only [Int.toNat_natCast]
    refine ⟨⟨by omega, by omega⟩, ⟨by omega, by omega⟩, ⟨by omega, by omega⟩, ?_⟩
    exact hg
  · refine k_brF (by omega) ?_
    have hg := go k sz cs ls (by omega) (c3 k f3 (by omega))
    rw [hS_id h1, hS_id h2, hS_id h3] at hg
    rw [f3]
    exact hg
end Tell27
