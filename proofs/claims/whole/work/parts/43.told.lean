/-! Hearing.told -/
section Told43
variable {x : Bool} {d : Nat} {h : PH} {hq : Nat}
def tld (ac : Nat) (S : HS) (w : Int) : Int := if S.1 = -1 then -1 else if w = 0 then S.1 else if w = 1 then S.2.1 else if w = 2 then S.2.2.1 else if w = 3 then S.2.2.2 else if w = 4 then (if S.2.2.1 = -1 then -1 else S.2.2.2 - S.2.1) else if w = 5 then ac else -1
set_option maxRecDepth 100000 in
set_option maxHeartbeats 4000000 in
theorem e_told {ac : Nat} {S : HS} {w : Int} (hH : h.2 hq = some (heO hq ac S)) (hI : S.2.2.1 = -1 ∨ ((0 ≤ S.2.1 ∧ S.2.1 ≤ 1000000) ∧ 0 ≤ S.2.2.2 ∧ S.2.2.2 ≤ 1000000)) : k_Ev x d 0 0 mX2_told [vR hq, vI w] h (fun o h' => o = rI (tld ac S w) ∧ h' = h) := by
  unfold tld
  refine k_enp 0 (Nat.le_of_ble_eq_true rfl) (p_go [] 40 ?_)
  by_cases hf : S.1 = -1
  · rw [if_pos hf]
    simp only [st_0, st_1, st_2, st_3, st_4, st_5, st_6, st_7, st_8, st_9, st_10, st_11, st_12, st_13, st_14, st_15, st_16, st_17, st_18, st_19, st_20, st_21, st_22, st_23, st_24, st_25, st_26, st_27, st_28, st_29, st_30, st_31, st_32, st_33, st_34, st_34a, st_35, st_36, st_37, st_38, st_39, st_42, st_44, st_45, st_47, st_40, st_41, st_46, st_48, st_49, st_43, go_0, go_s, cut_0, cut_s, get_0, get_s, put_0, put_1, put_s, clr_0, clr_s, unl_i, unl_l, unl_r, unl_n, nth_0, nth_s, sf_0, sf_s, cnd_0, cnd_1, cnd_2, cnd_3, cnd_4, cnd_5, fit_0, fit_1, fit_2, en_0, en_i, en_l, en_r, kb_t, kb_f, kb_n, sw_0, sw_s, ↓reduceIte, Nat.reduceEqDiff, Nat.left_eq_add, Nat.add_eq_left, Nat.add_left_cancel_iff, Nat.reduceAdd, Int.reduceLT, Int.reduceLE, Int.reduceAdd, Int.reduceSub, Int.reduceNeg, Int.reduceMul, Int.reduceToNat, Int.reduceEq, reduceCtorEq, true_and, and_true, true_or, or_true, and_false, false_and, or_false, false_or, not_true_eq_false, not_false_eq_true, Nat.le_refl, and_self, Sum.inl.injEq, Sum.inr.injEq, Option.some.injEq, hS_2, k_isref, pd_0, pd_s, List.cons_append, List.nil_append, Option.toList_none, Option.toList_some, tX2_told, rX2_told, hH, hf]
  · rw [if_neg hf]
    simp only [st_0, st_1, st_2, st_3, st_4, st_5, st_6, st_7, st_8, st_9, st_10, st_11, st_12, st_13, st_14, st_15, st_16, st_17, st_18, st_19, st_20, st_21, st_22, st_23, st_24, st_25, st_26, st_27, st_28, st_29, st_30, st_31, st_32, st_33, st_34, st_34a, st_35, st_36, st_37, st_38, st_39, st_42, st_44, st_45, st_47, st_40, st_41, st_46, st_48, st_49, st_43, go_0, go_s, cut_0, cut_s, get_0, get_s, put_0, put_1, put_s, clr_0, clr_s, unl_i, unl_l, unl_r, unl_n, nth_0, nth_s, sf_0, sf_s, cnd_0, cnd_1, cnd_2, cnd_3, cnd_4, cnd_5, fit_0, fit_1, fit_2, en_0, en_i, en_l, en_r, kb_t, kb_f, kb_n, sw_0, sw_s, ↓reduceIte, Nat.reduceEqDiff, Nat.left_eq_add, Nat.add_eq_left, Nat.add_left_cancel_iff, Nat.reduceAdd, Int.reduceLT, Int.reduceLE, Int.reduceAdd, Int.reduceSub, Int.reduceNeg, Int.reduceMul, Int.reduceToNat, Int.reduceEq, reduceCtorEq, true_and, and_true, true_or, or_true, and_false, false_and, or_false, false_or, not_true_eq_false, not_false_eq_true, Nat.le_refl, and_self, Sum.inl.injEq, Sum.inr.injEq, Option.some.injEq, hS_2, k_isref, pd_0, pd_s, List.cons_append, List.nil_append, Option.toList_none, Option.toList_some, tX2_told, rX2_told, hH, hf]
    (repeat' (first | refine k_brI (fun _ => ?_) (fun _ => ?_) | refine And.intro ?_ ?_))
    all_goals first | omega | ((repeat' split) <;> omega)
end Told43
