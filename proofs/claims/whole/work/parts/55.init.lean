/-! constructors -/
/-- an array of noughts -/
abbrev Z_ : F_ := fun _ => 0
section Init55
variable {d : Nat} {h : PH}
theorem hN_s {c : PC} : (hN h c).2 h.1 = some c := by unfold hN; simp
theorem hN_n {c : PC} {z : Nat} (hz : z ≠ h.1) : (hN h c).2 z = h.2 z := by unfold hN; simp [hz]
theorem hN_1 {c : PC} : (hN h c).1 = h.1 + 1 := rfl
theorem hS_1 {a : Nat} {c : PC} : (hS h a c).1 = h.1 := rfl
set_option maxRecDepth 100000 in
set_option maxHeartbeats 4000000 in
theorem e_iRows {q n w : Nat} (hq : h.1 = q + 1) (h1 : h.2 q = some (cO 8 [vI 0, vN, vN])) (hn : n ≤ 2000) (hw : w ≤ 2000) (hd : 1 ≤ d) : k_Ev true d 2 (n + n * w) mX8_init [vR q, vI n, vI w] h (fun o h' => o = rV ∧ h'.1 = q + 3 ∧ (∀ z, z < q → h'.2 z = h.2 z) ∧ Rw h' q w n Z_ Z_) := by
  refine k_enp 0 (Nat.le_of_ble_eq_true rfl) (p_go [] 40 ?_)
  simp only [st_0, st_1, st_2, st_3, st_4, st_5, st_6, st_7, st_8, st_9, st_10, st_11, st_12, st_13, st_14, st_15, st_16, st_17, st_18, st_19, st_20, st_21, st_22, st_23, st_24, st_25, st_26, st_27, st_28, st_29, st_30, st_31, st_32, st_33, st_34, st_34a, st_35, st_36, st_37, st_38, st_39, st_42, st_44, st_45, st_47, st_40, st_41, st_46, st_48, st_49, st_43, go_0, go_s, cut_0, cut_s, get_0, get_s, put_0, put_1, put_s, clr_0, clr_s, unl_i, unl_l, unl_r, unl_n, nth_0, nth_s, sf_0, sf_s, cnd_0, cnd_1, cnd_2, cnd_3, cnd_4, cnd_5, fit_0, fit_1, fit_2, en_0, en_i, en_l, en_r, kb_t, kb_f, kb_n, sw_0, sw_s, ↓reduceIte, Nat.reduceEqDiff, Nat.left_eq_add, Nat.add_eq_left, Nat.add_left_cancel_iff, Nat.reduceAdd, Int.reduceLT, Int.reduceLE, Int.reduceAdd, Int.reduceSub, Int.reduceNeg, Int.reduceMul, Int.reduceToNat, Int.reduceEq, reduceCtorEq, true_and, and_true, true_or, or_true, and_false, false_and, or_false, false_or, not_true_eq_false, not_false_eq_true, Nat.le_refl, and_self, Sum.inl.injEq, Sum.inr.injEq, Option.some.injEq, hS_2, k_isref, pd_0, pd_s, List.cons_append, List.nil_append, Option.toList_none, Option.toList_some, tX8_init, rX8_init, h1]
  fail
end Init55
