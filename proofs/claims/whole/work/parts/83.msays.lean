/-! the reference: says -/
section Msays83
variable {x : Bool} {d : Nat} {h h0 : PH} {t : F_} {P : PO → PH → Prop} {pc wc : Nat} {nw wp wq wl ws : F_}
/-- how many sounds a command has -/
def smj (pc : Nat) (nw wp wq wl : F_) : Nat → Nat → Int → Int
  | 0, _, m => m
  | j + 1, i, m => smj pc nw wp wq wl j (i + 1) (if cm pc nw (wp i) (wq i) = 0 then m else m + wl i)
theorem jwd_m {k : Nat} : ∀ (j i : Nat) (m : Int) (cl cs : F_), (jwd pc nw wp wq wl ws k j i m cl cs).1 = smj pc nw wp wq wl j i m
  | 0, _, _, _, _ => rfl
  | j + 1, i, m, cl, cs => by
    unfold jwd smj
    split
    · exact jwd_m j (i + 1) m cl cs
    · exact jwd_m j (i + 1) _ _ _
theorem smj_ge (hwl : ∀ i, i < wc → 0 ≤ wl i) : ∀ (j i : Nat) (m : Int), i + j ≤ wc → m ≤ smj pc nw wp wq wl j i m
  | 0, _, m, _ => Int.le_refl m
  | j + 1, i, m, h => by
    unfold smj
    split
    · exact smj_ge hwl j (i + 1) m (by omega)
    · have h1 := smj_ge hwl j (i + 1) (m + wl i) (by omega)
      have h2 := hwl i (by omega)
      omega
theorem smj_le (hwl : ∀ i, i < wc → 0 ≤ wl i ∧ wl i ≤ 20) : ∀ (j i : Nat) (m : Int), i + j ≤ wc → smj pc nw wp wq wl j i m ≤ m + 20 * j
  | 0, _, m, _ => by unfold smj; omega
  | j + 1, i, m, h => by
    unfold smj
    have h2 := hwl i (by omega)
    split
    · have h1 := smj_le hwl j (i + 1) m (by omega)
      omega
    · have h1 := smj_le hwl j (i + 1) (m + wl i) (by omega)
      omega
/-- the reference's words -/
def MWd (h : PH) (t : F_) (wc : Nat) (wp wq wl ws : F_) : Prop := h.2 57 = some (mO t) ∧ t 30 = wc ∧ ∃ ss sm sp sa, h.2 72 = some (cI 400 ss) ∧ h.2 73 = some (cI 20 sm) ∧ h.2 74 = some (cI 20 sp) ∧ h.2 75 = some (cI 20 sa) ∧ ∀ k, k < wc → sm k = wl k ∧ (∀ i : Nat, (i : Int) < wl k → ss (20 * k + i) = ws (k * 20 + i)) ∧ sp k = wp k ∧ sa k = wq k
/-- what has been said so far of command k, in both -/
def sayI (k n : Nat) (cl cs sd sd0 : F_) : Prop := cl k = n ∧ (∀ i, i < n → sd (40 * k + i) = cs (k * 40 + i)) ∧ (∀ z, (z < 40 * k ∨ 40 * k + 40 ≤ z) → sd z = sd0 z)
set_option maxRecDepth 100000 in
set_option maxHeartbeats 4000000 in
theorem w_sayP {k : Nat} {to : Int} {np pi : F_} (h1 : h.2 57 = some (mO t)) (h31 : t 31 = pc) (hpc : pc ≤ 8) (hk : k < 120) (h98 : h.2 83 = some (cI 960 np))
    (kk : k_Wp x d 0 0 mX12_says P 0 0 33 [some (vR 57), some (vI k), some (vI to), none, none, none] [] (hS h 84 (cI 8 (va_cpy np pi (8 * k) 0 pc)))) : ∀ (j p : Nat), p + j = pc →
    k_Wp x d 0 0 mX12_says P 0 0 2 [some (vR 57), some (vI k), some (vI to), some (vI p), none, none] [] (hS h 84 (cI 8 (va_cpy np pi (8 * k) 0 p))) := by
  intro j
  induction j with
  | zero =>
    intro p hp
    rw [show pc = p by omega] at kk
    have e1 : t 31 ≤ (p : Int) := by omega
    refine p_go [33] 40 ?_
    simp only [st_0, st_1, st_2, st_3, st_4, st_5, st_6, st_7, st_8, st_9, st_10, st_11, st_12, st_13, st_14, st_15, st_16, st_17, st_18, st_19, st_20, st_21, st_22, st_23, st_24, st_25, st_26, st_27, st_28, st_29, st_30, st_31, st_32, st_33, st_34, st_34a, st_35, st_36, st_37, st_38, st_39, st_42, st_44, st_45, st_47, st_40, st_41, st_46, st_48, st_49, st_43, go_0, go_s, cut_0, cut_s, get_0, get_s, put_0, put_1, put_s, clr_0, clr_s, unl_i, unl_l, unl_r, unl_n, nth_0, nth_s, sf_0, sf_s, cnd_0, cnd_1, cnd_2, cnd_3, cnd_4, cnd_5, fit_0, fit_1, fit_2, en_0, en_i, en_l, en_r, kb_t, kb_f, kb_n, sw_0, sw_s, ↓reduceIte, Nat.reduceEqDiff, Nat.left_eq_add, Nat.add_eq_left, Nat.add_left_cancel_iff, Nat.reduceAdd, Int.reduceLT, Int.reduceLE, Int.reduceAdd, Int.reduceSub, Int.reduceNeg, Int.reduceMul, Int.reduceToNat, Int.reduceEq, reduceCtorEq, true_and, and_true, true_or, or_true, and_false, false_and, or_false, false_or, not_true_eq_false, not_false_eq_true, Nat.le_refl, and_self, Sum.inl.injEq, Sum.inr.injEq, Option.some.injEq, hS_2, k_isref, pd_0, pd_s, List.cons_append, List.nil_append, Option.toList_none, Option.toList_some, tX12_says, rX12_says, h1, e1]
    exact p_sub (by (repeat (first | exact le_nil | refine le_s ?_ | refine le_n ?_))) kk
  | succ j ih =>
    intro p hp
    have e1 : ¬ t 31 ≤ (p : Int) := by omega
    have e2 : ((8 : Int) * k + p).toNat = 8 * k + p := by omega
    have hnx := ih (p + 1) (by omega)
    rw [← cpy_s, Nat.zero_add] at hnx
    refine p_go [2] 40 ?_
    simp only [st_0, st_1, st_2, st_3, st_4, st_5, st_6, st_7, st_8, st_9, st_10, st_11, st_12, st_13, st_14, st_15, st_16, st_17, st_18, st_19, st_20, st_21, st_22, st_23, st_24, st_25, st_26, st_27, st_28, st_29, st_30, st_31, st_32, st_33, st_34, st_34a, st_35, st_36, st_37, st_38, st_39, st_42, st_44, st_45, st_47, st_40, st_41, st_46, st_48, st_49, st_43, go_0, go_s, cut_0, cut_s, get_0, get_s, put_0, put_1, put_s, clr_0, clr_s, unl_i, unl_l, unl_r, unl_n, nth_0, nth_s, sf_0, sf_s, cnd_0, cnd_1, cnd_2, cnd_3, cnd_4, cnd_5, fit_0, fit_1, fit_2, en_0, en_i, en_l, en_r, kb_t, kb_f, kb_n, sw_0, sw_s, ↓reduceIte, Nat.reduceEqDiff, Nat.left_eq_add, Nat.add_eq_left, Nat.add_left_cancel_iff, Nat.reduceAdd, Int.reduceLT, Int.reduceLE, Int.reduceAdd, Int.reduceSub, Int.reduceNeg, Int.reduceMul, Int.reduceToNat, Int.reduceEq, reduceCtorEq, true_and, and_true, true_or, or_true, and_false, false_and, or_false, false_or, not_true_eq_false, not_false_eq_true, Nat.le_refl, and_self, Sum.inl.injEq, Sum.inr.injEq, Option.some.injEq, hS_2, k_isref, pd_0, pd_s, List.cons_append, List.nil_append, Option.toList_none, Option.toList_some, tX12_says, rX12_says, h1, h98, e1, e2, nat1, hS_hS, Int.toNat_natCast]
    (repeat (first | exact hnx | refine ⟨⟨by omega, by omega⟩, ?_⟩ | refine And.intro (by omega) ?_))
set_option maxRecDepth 100000 in
set_option maxHeartbeats 4000000 in
theorem w_sayC {k : Nat} {w c : Nat} {sm : F_} (h1 : h.2 57 = some (mO t)) (h88 : h.2 73 = some (cI 20 sm)) (hw : w < 20) (hsm : sm w = c) (hc : c ≤ 20) {n0 : Nat} (hn0 : n0 ≤ 400)
    (kk : k_Wp x d 0 0 mX12_says P 0 0 120 [some (vR 57), some (vI k), some (vI (-1)), some (vI ((n0 + c : Nat) : Int)), some (vI w), none] [] h) : ∀ (j i : Nat), i + j = c →
    k_Wp x d 0 0 mX12_says P 0 0 74 [some (vR 57), some (vI k), some (vI (-1)), some (vI ((n0 + i : Nat) : Int)), some (vI w), some (vI i)] [] h := by
  intro j
  induction j with
  | zero =>
    intro i hi
    have e1 : (c : Int) ≤ (i : Int) := by omega
    rw [show c = i by omega] at kk
    refine p_go [120] 40 ?_
    simp only [st_0, st_1, st_2, st_3, st_4, st_5, st_6, st_7, st_8, st_9, st_10, st_11, st_12, st_13, st_14, st_15, st_16, st_17, st_18, st_19, st_20, st_21, st_22, st_23, st_24, st_25, st_26, st_27, st_28, st_29, st_30, st_31, st_32, st_33, st_34, st_34a, st_35, st_36, st_37, st_38, st_39, st_42, st_44, st_45, st_47, st_40, st_41, st_46, st_48, st_49, st_43, go_0, go_s, cut_0, cut_s, get_0, get_s, put_0, put_1, put_s, clr_0, clr_s, unl_i, unl_l, unl_r, unl_n, nth_0, nth_s, sf_0, sf_s, cnd_0, cnd_1, cnd_2, cnd_3, cnd_4, cnd_5, fit_0, fit_1, fit_2, en_0, en_i, en_l, en_r, kb_t, kb_f, kb_n, sw_0, sw_s, ↓reduceIte, Nat.reduceEqDiff, Nat.left_eq_add, Nat.add_eq_left, Nat.add_left_cancel_iff, Nat.reduceAdd, Int.reduceLT, Int.reduceLE, Int.reduceAdd, Int.reduceSub, Int.reduceNeg, Int.reduceMul, Int.reduceToNat, Int.reduceEq, reduceCtorEq, true_and, and_true, true_or, or_true, and_false, false_and, or_false, false_or, not_true_eq_false, not_false_eq_true, Nat.le_refl, and_self, Sum.inl.injEq, Sum.inr.injEq, Option.some.injEq, hS_2, k_isref, pd_0, pd_s, List.cons_append, List.nil_append, Option.toList_none, Option.toList_some, tX12_says, rX12_says, h1, h88, hsm, e1, Int.toNat_natCast]
    exact ⟨⟨by omega, by omega⟩, p_sub (by (repeat (first | exact le_nil | refine le_s ?_ | refine le_n ?_))) kk⟩
  | succ j ih =>
    intro i hi
    have e1 : ¬ (c : Int) ≤ (i : Int) := by omega
    have e2 : ((n0 + i : Nat) : Int) + 1 = ((n0 + (i + 1) : Nat) : Int) := by omega
    have hnx := ih (i + 1) (by omega)
    refine p_go [74] 40 ?_
    simp only [st_0, st_1, st_2, st_3, st_4, st_5, st_6, st_7, st_8, st_9, st_10, st_11, st_12, st_13, st_14, st_15, st_16, st_17, st_18, st_19, st_20, st_21, st_22, st_23, st_24, st_25, st_26, st_27, st_28, st_29, st_30, st_31, st_32, st_33, st_34, st_34a, st_35, st_36, st_37, st_38, st_39, st_42, st_44, st_45, st_47, st_40, st_41, st_46, st_48, st_49, st_43, go_0, go_s, cut_0, cut_s, get_0, get_s, put_0, put_1, put_s, clr_0, clr_s, unl_i, unl_l, unl_r, unl_n, nth_0, nth_s, sf_0, sf_s, cnd_0, cnd_1, cnd_2, cnd_3, cnd_4, cnd_5, fit_0, fit_1, fit_2, en_0, en_i, en_l, en_r, kb_t, kb_f, kb_n, sw_0, sw_s, ↓reduceIte, Nat.reduceEqDiff, Nat.left_eq_add, Nat.add_eq_left, Nat.add_left_cancel_iff, Nat.reduceAdd, Int.reduceLT, Int.reduceLE, Int.reduceAdd, Int.reduceSub, Int.reduceNeg, Int.reduceMul, Int.reduceToNat, Int.reduceEq, reduceCtorEq, true_and, and_true, true_or, or_true, and_false, false_and, or_false, false_or, not_true_eq_false, not_false_eq_true, Nat.le_refl, and_self, Sum.inl.injEq, Sum.inr.injEq, Option.some.injEq, hS_2, k_isref, pd_0, pd_s, List.cons_append, List.nil_append, Option.toList_none, Option.toList_some, tX12_says, rX12_says, h1, h88, hsm, e1, e2, nat1, Int.toNat_natCast]
    (repeat (first | exact hnx | refine ⟨⟨by omega, by omega⟩, ?_⟩ | refine And.intro (by omega) ?_))
set_option maxRecDepth 100000 in
set_option maxHeartbeats 4000000 in
theorem w_sayN {k : Nat} {pi : F_} (hM : MWd h t wc wp wq wl ws) (h99 : h.2 84 = some (cI 8 pi)) (hpc : pc ≤ 8) (hag : agr pc pi nw) (hwc : wc ≤ 20) (hwl : ∀ i, i < wc → 0 ≤ wl i ∧ wl i ≤ 20) (hwp : ∀ i, i < wc → -1 ≤ wp i ∧ wp i < pc) (hd : 1 ≤ d) {V : Int} : ∀ (j i n : Nat), i + j = wc → n ≤ 20 * i → smj pc nw wp wq wl j i n = V →
    k_Wp x d 0 0 mX12_says (fun o h' => o = rI V ∧ h' = h) 0 0 38 [some (vR 57), some (vI k), some (vI (-1)), some (vI n), some (vI i), none] [] h := by
  obtain ⟨h1, h30, ss, sm, sp, sa, a1, a2, a3, a4, a5⟩ := hM
  intro j
  induction j with
  | zero =>
    intro i n hi hn he
    have he : (n : Int) = V := he
    subst he
    have e1 : t 30 ≤ (i : Int) := by omega
    refine p_go [] 40 ?_
    simp only [st_0, st_1, st_2, st_3, st_4, st_5, st_6, st_7, st_8, st_9, st_10, st_11, st_12, st_13, st_14, st_15, st_16, st_17, st_18, st_19, st_20, st_21, st_22, st_23, st_24, st_25, st_26, st_27, st_28, st_29, st_30, st_31, st_32, st_33, st_34, st_34a, st_35, st_36, st_37, st_38, st_39, st_42, st_44, st_45, st_47, st_40, st_41, st_46, st_48, st_49, st_43, go_0, go_s, cut_0, cut_s, get_0, get_s, put_0, put_1, put_s, clr_0, clr_s, unl_i, unl_l, unl_r, unl_n, nth_0, nth_s, sf_0, sf_s, cnd_0, cnd_1, cnd_2, cnd_3, cnd_4, cnd_5, fit_0, fit_1, fit_2, en_0, en_i, en_l, en_r, kb_t, kb_f, kb_n, sw_0, sw_s, ↓reduceIte, Nat.reduceEqDiff, Nat.left_eq_add, Nat.add_eq_left, Nat.add_left_cancel_iff, Nat.reduceAdd, Int.reduceLT, Int.reduceLE, Int.reduceAdd, Int.reduceSub, Int.reduceNeg, Int.reduceMul, Int.reduceToNat, Int.reduceEq, reduceCtorEq, true_and, and_true, true_or, or_true, and_false, false_and, or_false, false_or, not_true_eq_false, not_false_eq_true, Nat.le_refl, and_self, Sum.inl.injEq, Sum.inr.injEq, Option.some.injEq, hS_2, k_isref, pd_0, pd_s, List.cons_append, List.nil_append, Option.toList_none, Option.toList_some, tX12_says, rX12_says, h1, e1]
  | succ j ih =>
    intro i n hi hn he
    unfold smj at he
    have e1 : ¬ t 30 ≤ (i : Int) := by omega
    obtain ⟨b1, b2, b3, b4⟩ := a5 i (by omega)
    have bw := hwl i (by omega)
    have hev := e_isCome (x := x) (d := 0) (z := wp i) (a := wq i) h1 h99 hpc (by have := hwp i (by omega); omega)
    have hcm := cm_agr (pc := pc) (v := wq i) hag (show wp i < (pc : Int) from (hwp i (by omega)).2)
    rw [hcm] at hev
    refine p_go [] 40 ?_
    simp only [st_0, st_1, st_2, st_3, st_4, st_5, st_6, st_7, st_8, st_9, st_10, st_11, st_12, st_13, st_14, st_15, st_16, st_17, st_18, st_19, st_20, st_21, st_22, st_23, st_24, st_25, st_26, st_27, st_28, st_29, st_30, st_31, st_32, st_33, st_34, st_34a, st_35, st_36, st_37, st_38, st_39, st_42, st_44, st_45, st_47, st_40, st_41, st_46, st_48, st_49, st_43, go_0, go_s, cut_0, cut_s, get_0, get_s, put_0, put_1, put_s, clr_0, clr_s, unl_i, unl_l, unl_r, unl_n, nth_0, nth_s, sf_0, sf_s, cnd_0, cnd_1, cnd_2, cnd_3, cnd_4, cnd_5, fit_0, fit_1, fit_2, en_0, en_i, en_l, en_r, kb_t, kb_f, kb_n, sw_0, sw_s, ↓reduceIte, Nat.reduceEqDiff, Nat.left_eq_add, Nat.add_eq_left, Nat.add_left_cancel_iff, Nat.reduceAdd, Int.reduceLT, Int.reduceLE, Int.reduceAdd, Int.reduceSub, Int.reduceNeg, Int.reduceMul, Int.reduceToNat, Int.reduceEq, reduceCtorEq, true_and, and_true, true_or, or_true, and_false, false_and, or_false, false_or, not_true_eq_false, not_false_eq_true, Nat.le_refl, and_self, Sum.inl.injEq, Sum.inr.injEq, Option.some.injEq, hS_2, k_isref, pd_0, pd_s, List.cons_append, List.nil_append, Option.toList_none, Option.toList_some, tX12_says, rX12_says, h1, a3, a4, b3, b4, e1, Int.toNat_natCast]
    refine ⟨⟨by omega, by omega⟩, ⟨by omega, by omega⟩, ?_⟩
    refine cV (d' := 0) [vI (wp i), vI (wq i)] [] l_12_204 h1 hev (by omega) (p_go [74, 38] 40 ?_)
    by_cases hc : cm pc nw (wp i) (wq i) = 0
    · rw [if_pos hc] at he
      rw [hc]
      have hnx := ih (i + 1) n (by omega) (by omega) he
      simp only [st_0, st_1, st_2, st_3, st_4, st_5, st_6, st_7, st_8, st_9, st_10, st_11, st_12, st_13, st_14, st_15, st_16, st_17, st_18, st_19, st_20, st_21, st_22, st_23, st_24, st_25, st_26, st_27, st_28, st_29, st_30, st_31, st_32, st_33, st_34, st_34a, st_35, st_36, st_37, st_38, st_39, st_42, st_44, st_45, st_47, st_40, st_41, st_46, st_48, st_49, st_43, go_0, go_s, cut_0, cut_s, get_0, get_s, put_0, put_1, put_s, clr_0, clr_s, unl_i, unl_l, unl_r, unl_n, nth_0, nth_s, sf_0, sf_s, cnd_0, cnd_1, cnd_2, cnd_3, cnd_4, cnd_5, fit_0, fit_1, fit_2, en_0, en_i, en_l, en_r, kb_t, kb_f, kb_n, sw_0, sw_s, ↓reduceIte, Nat.reduceEqDiff, Nat.left_eq_add, Nat.add_eq_left, Nat.add_left_cancel_iff, Nat.reduceAdd, Int.reduceLT, Int.reduceLE, Int.reduceAdd, Int.reduceSub, Int.reduceNeg, Int.reduceMul, Int.reduceToNat, Int.reduceEq, reduceCtorEq, true_and, and_true, true_or, or_true, and_false, false_and, or_false, false_or, not_true_eq_false, not_false_eq_true, Nat.le_refl, and_self, Sum.inl.injEq, Sum.inr.injEq, Option.some.injEq, hS_2, k_isref, pd_0, pd_s, List.cons_append, List.nil_append, Option.toList_none, Option.toList_some, tX12_says, rX12_says, nat1]
      exact ⟨⟨by omega, by omega⟩, hnx⟩
    · rw [if_neg hc] at he
      have hc1 : cm pc nw (wp i) (wq i) = 1 := by
        unfold cm at hc ⊢
        split <;> rename_i q
        · rw [if_pos q] at hc; exact absurd rfl hc
        · rfl
      rw [hc1]
      obtain ⟨c, ec⟩ : ∃ c : Nat, wl i = (c : Int) := ⟨(wl i).toNat, by omega⟩
      rw [ec, show (n : Int) + (c : Int) = ((n + c : Nat) : Int) by omega] at he
      have hnx := ih (i + 1) (n + c) (by omega) (by omega) he
      simp only [st_0, st_1, st_2, st_3, st_4, st_5, st_6, st_7, st_8, st_9, st_10, st_11, st_12, st_13, st_14, st_15, st_16, st_17, st_18, st_19, st_20, st_21, st_22, st_23, st_24, st_25, st_26, st_27, st_28, st_29, st_30, st_31, st_32, st_33, st_34, st_34a, st_35, st_36, st_37, st_38, st_39, st_42, st_44, st_45, st_47, st_40, st_41, st_46, st_48, st_49, st_43, go_0, go_s, cut_0, cut_s, get_0, get_s, put_0, put_1, put_s, clr_0, clr_s, unl_i, unl_l, unl_r, unl_n, nth_0, nth_s, sf_0, sf_s, cnd_0, cnd_1, cnd_2, cnd_3, cnd_4, cnd_5, fit_0, fit_1, fit_2, en_0, en_i, en_l, en_r, kb_t, kb_f, kb_n, sw_0, sw_s, ↓reduceIte, Nat.reduceEqDiff, Nat.left_eq_add, Nat.add_eq_left, Nat.add_left_cancel_iff, Nat.reduceAdd, Int.reduceLT, Int.reduceLE, Int.reduceAdd, Int.reduceSub, Int.reduceNeg, Int.reduceMul, Int.reduceToNat, Int.reduceEq, reduceCtorEq, true_and, and_true, true_or, or_true, and_false, false_and, or_false, false_or, not_true_eq_false, not_false_eq_true, Nat.le_refl, and_self, Sum.inl.injEq, Sum.inr.injEq, Option.some.injEq, hS_2, k_isref, pd_0, pd_s, List.cons_append, List.nil_append, Option.toList_none, Option.toList_some, tX12_says, rX12_says]
      refine w_sayC (n0 := n) (c := c) h1 a2 (by omega) (by omega) (by omega) (by omega) (p_go [38] 40 ?_) c 0 (by omega)
      simp only [st_0, st_1, st_2, st_3, st_4, st_5, st_6, st_7, st_8, st_9, st_10, st_11, st_12, st_13, st_14, st_15, st_16, st_17, st_18, st_19, st_20, st_21, st_22, st_23, st_24, st_25, st_26, st_27, st_28, st_29, st_30, st_31, st_32, st_33, st_34, st_34a, st_35, st_36, st_37, st_38, st_39, st_42, st_44, st_45, st_47, st_40, st_41, st_46, st_48, st_49, st_43, go_0, go_s, cut_0, cut_s, get_0, get_s, put_0, put_1, put_s, clr_0, clr_s, unl_i, unl_l, unl_r, unl_n, nth_0, nth_s, sf_0, sf_s, cnd_0, cnd_1, cnd_2, cnd_3, cnd_4, cnd_5, fit_0, fit_1, fit_2, en_0, en_i, en_l, en_r, kb_t, kb_f, kb_n, sw_0, sw_s, ↓reduceIte, Nat.reduceEqDiff, Nat.left_eq_add, Nat.add_eq_left, Nat.add_left_cancel_iff, Nat.reduceAdd, Int.reduceLT, Int.reduceLE, Int.reduceAdd, Int.reduceSub, Int.reduceNeg, Int.reduceMul, Int.reduceToNat, Int.reduceEq, reduceCtorEq, true_and, and_true, true_or, or_true, and_false, false_and, or_false, false_or, not_true_eq_false, not_false_eq_true, Nat.le_refl, and_self, Sum.inl.injEq, Sum.inr.injEq, Option.some.injEq, hS_2, k_isref, pd_0, pd_s, List.cons_append, List.nil_append, Option.toList_none, Option.toList_some, tX12_says, rX12_says, nat1]
      exact ⟨⟨by omega, by omega⟩, p_sub (by (repeat (first | exact le_nil | refine le_s ?_ | refine le_n ?_))) hnx⟩
set_option maxRecDepth 100000 in
set_option maxHeartbeats 4000000 in
theorem w_sayD {k : Nat} {w c : Nat} {sm ss sd : F_} (h1 : h.2 57 = some (mO t)) (h87 : h.2 72 = some (cI 400 ss)) (h88 : h.2 73 = some (cI 20 sm)) (hk : k < 120) (hw : w < 20) (hsm : sm w = c) {n0 : Nat} (hn0 : n0 + c ≤ 40) (hc : c ≤ 20)
    (kk : k_Wp x d 0 0 mX12_says P 0 0 120 [some (vR 57), some (vI k), some (vI ((40 * k : Nat) : Int)), some (vI ((n0 + c : Nat) : Int)), some (vI w), none] [] (hS h 81 (cI 4800 (va_cpy ss sd (20 * w) (40 * k + n0) c)))) : ∀ (j i : Nat), i + j = c →
    k_Wp x d 0 0 mX12_says P 0 0 74 [some (vR 57), some (vI k), some (vI ((40 * k : Nat) : Int)), some (vI ((n0 + i : Nat) : Int)), some (vI w), some (vI i)] [] (hS h 81 (cI 4800 (va_cpy ss sd (20 * w) (40 * k + n0) i))) := by
  intro j
  induction j with
  | zero =>
    intro i hi
    have e1 : (c : Int) ≤ (i : Int) := by omega
    rw [show c = i by omega] at kk
    refine p_go [120] 40 ?_
    simp only [st_0, st_1, st_2, st_3, st_4, st_5, st_6, st_7, st_8, st_9, st_10, st_11, st_12, st_13, st_14, st_15, st_16, st_17, st_18, st_19, st_20, st_21, st_22, st_23, st_24, st_25, st_26, st_27, st_28, st_29, st_30, st_31, st_32, st_33, st_34, st_34a, st_35, st_36, st_37, st_38, st_39, st_42, st_44, st_45, st_47, st_40, st_41, st_46, st_48, st_49, st_43, go_0, go_s, cut_0, cut_s, get_0, get_s, put_0, put_1, put_s, clr_0, clr_s, unl_i, unl_l, unl_r, unl_n, nth_0, nth_s, sf_0, sf_s, cnd_0, cnd_1, cnd_2, cnd_3, cnd_4, cnd_5, fit_0, fit_1, fit_2, en_0, en_i, en_l, en_r, kb_t, kb_f, kb_n, sw_0, sw_s, ↓reduceIte, Nat.reduceEqDiff, Nat.left_eq_add, Nat.add_eq_left, Nat.add_left_cancel_iff, Nat.reduceAdd, Int.reduceLT, Int.reduceLE, Int.reduceAdd, Int.reduceSub, Int.reduceNeg, Int.reduceMul, Int.reduceToNat, Int.reduceEq, reduceCtorEq, true_and, and_true, true_or, or_true, and_false, false_and, or_false, false_or, not_true_eq_false, not_false_eq_true, Nat.le_refl, and_self, Sum.inl.injEq, Sum.inr.injEq, Option.some.injEq, hS_2, k_isref, pd_0, pd_s, List.cons_append, List.nil_append, Option.toList_none, Option.toList_some, tX12_says, rX12_says, h1, h88, hsm, e1, Int.toNat_natCast]
    exact ⟨⟨by omega, by omega⟩, p_sub (by (repeat (first | exact le_nil | refine le_s ?_ | refine le_n ?_))) kk⟩
  | succ j ih =>
    intro i hi
    have e1 : ¬ (c : Int) ≤ (i : Int) := by omega
    have e2 : ((n0 + i : Nat) : Int) + 1 = ((n0 + (i + 1) : Nat) : Int) := by omega
    have e3 : ¬ ((40 * k : Nat) : Int) < 0 := by omega
    have e4 : (((40 * k : Nat) : Int) + ((n0 + i : Nat) : Int)).toNat = 40 * k + n0 + i := by omega
    have e5 : ((20 : Int) * w + i).toNat = 20 * w + i := by omega
    have hnx := ih (i + 1) (by omega)
    rw [← cpy_s] at hnx
    refine p_go [74] 40 ?_
    simp only [st_0, st_1, st_2, st_3, st_4, st_5, st_6, st_7, st_8, st_9, st_10, st_11, st_12, st_13, st_14, st_15, st_16, st_17, st_18, st_19, st_20, st_21, st_22, st_23, st_24, st_25, st_26, st_27, st_28, st_29, st_30, st_31, st_32, st_33, st_34, st_34a, st_35, st_36, st_37, st_38, st_39, st_42, st_44, st_45, st_47, st_40, st_41, st_46, st_48, st_49, st_43, go_0, go_s, cut_0, cut_s, get_0, get_s, put_0, put_1, put_s, clr_0, clr_s, unl_i, unl_l, unl_r, unl_n, nth_0, nth_s, sf_0, sf_s, cnd_0, cnd_1, cnd_2, cnd_3, cnd_4, cnd_5, fit_0, fit_1, fit_2, en_0, en_i, en_l, en_r, kb_t, kb_f, kb_n, sw_0, sw_s, ↓reduceIte, Nat.reduceEqDiff, Nat.left_eq_add, Nat.add_eq_left, Nat.add_left_cancel_iff, Nat.reduceAdd, Int.reduceLT, Int.reduceLE, Int.reduceAdd, Int.reduceSub, Int.reduceNeg, Int.reduceMul, Int.reduceToNat, Int.reduceEq, reduceCtorEq, true_and, and_true, true_or, or_true, and_false, false_and, or_false, false_or, not_true_eq_false, not_false_eq_true, Nat.le_refl, and_self, Sum.inl.injEq, Sum.inr.injEq, Option.some.injEq, hS_2, k_isref, pd_0, pd_s, List.cons_append, List.nil_append, Option.toList_none, Option.toList_some, tX12_says, rX12_says, h1, h87, h88, hsm, e1, e2, e3, e4, e5, nat1, hS_hS, Int.toNat_natCast]
    (repeat (first | exact hnx | refine ⟨⟨by omega, by omega⟩, ?_⟩ | refine And.intro (by omega) ?_))
set_option maxRecDepth 100000 in
set_option maxHeartbeats 4000000 in
theorem w_sayW {k : Nat} {pi sd0 : F_} (hk : k < 120) (hM : MWd h t wc wp wq wl ws) (h99 : h.2 84 = some (cI 8 pi)) (hpc : pc ≤ 8) (hag : agr pc pi nw) (hwc : wc ≤ 20) (hwl : ∀ i, i < wc → 0 ≤ wl i ∧ wl i ≤ 20) (hwp : ∀ i, i < wc → -1 ≤ wp i ∧ wp i < pc) (hd : 1 ≤ d) {T : Int × F_ × F_} (hT : T.1 ≤ 40) : ∀ (j i n : Nat) (cl cs sd : F_), i + j = wc → sayI k n cl cs sd sd0 → jwd pc nw wp wq wl ws k j i n cl cs = T →
    k_Wp x d 0 0 mX12_says (fun o h' => o = rI T.1 ∧ ∃ (m : Nat) (sd' : F_), T.1 = m ∧ sayI k m T.2.1 T.2.2 sd' sd0 ∧ h' = hS h 81 (cI 4800 sd')) 0 0 38 [some (vR 57), some (vI k), some (vI ((40 * k : Nat) : Int)), some (vI n), some (vI i), none] [] (hS h 81 (cI 4800 sd)) := by
  obtain ⟨h1, h30, ss, sm, sp, sa, a1, a2, a3, a4, a5⟩ := hM
  intro j
  induction j with
  | zero =>
    intro i n cl cs sd hi hI he
    have he : ((n : Int), cl, cs) = T := he
    subst he
    have e1 : t 30 ≤ (i : Int) := by omega
    refine p_go [] 40 ?_
    simp only [st_0, st_1, st_2, st_3, st_4, st_5, st_6, st_7, st_8, st_9, st_10, st_11, st_12, st_13, st_14, st_15, st_16, st_17, st_18, st_19, st_20, st_21, st_22, st_23, st_24, st_25, st_26, st_27, st_28, st_29, st_30, st_31, st_32, st_33, st_34, st_34a, st_35, st_36, st_37, st_38, st_39, st_42, st_44, st_45, st_47, st_40, st_41, st_46, st_48, st_49, st_43, go_0, go_s, cut_0, cut_s, get_0, get_s, put_0, put_1, put_s, clr_0, clr_s, unl_i, unl_l, unl_r, unl_n, nth_0, nth_s, sf_0, sf_s, cnd_0, cnd_1, cnd_2, cnd_3, cnd_4, cnd_5, fit_0, fit_1, fit_2, en_0, en_i, en_l, en_r, kb_t, kb_f, kb_n, sw_0, sw_s, ↓reduceIte, Nat.reduceEqDiff, Nat.left_eq_add, Nat.add_eq_left, Nat.add_left_cancel_iff, Nat.reduceAdd, Int.reduceLT, Int.reduceLE, Int.reduceAdd, Int.reduceSub, Int.reduceNeg, Int.reduceMul, Int.reduceToNat, Int.reduceEq, reduceCtorEq, true_and, and_true, true_or, or_true, and_false, false_and, or_false, false_or, not_true_eq_false, not_false_eq_true, Nat.le_refl, and_self, Sum.inl.injEq, Sum.inr.injEq, Option.some.injEq, hS_2, k_isref, pd_0, pd_s, List.cons_append, List.nil_append, Option.toList_none, Option.toList_some, tX12_says, rX12_says, h1, e1]
    exact ⟨n, sd, rfl, hI, rfl⟩
  | succ j ih =>
    intro i n cl cs sd hi hI he
    have hge := smj_ge (pc := pc) (nw := nw) (wp := wp) (wq := wq) (wl := wl) (wc := wc) (fun i hi => (hwl i hi).1) (j + 1) i n (by omega)
    rw [← jwd_m (ws := ws) (k := k) (cl := cl) (cs := cs), he] at hge
    unfold jwd at he
    have e1 : ¬ t 30 ≤ (i : Int) := by omega
    obtain ⟨b1, b2, b3, b4⟩ := a5 i (by omega)
    have bw := hwl i (by omega)
    have k1 := (hS_n (h := h) (a := 81) (c := cI 4800 sd) (show 57 ≠ 81 by decide)).trans h1
    have k99 := (hS_n (h := h) (a := 81) (c := cI 4800 sd) (show 84 ≠ 81 by decide)).trans h99
    have hev := e_isCome (x := x) (d := 0) (z := wp i) (a := wq i) k1 k99 hpc (by have := hwp i (by omega); omega)
    have hcm := cm_agr (pc := pc) (v := wq i) hag (show wp i < (pc : Int) from (hwp i (by omega)).2)
    rw [hcm] at hev
    refine p_go [] 40 ?_
    simp only [st_0, st_1, st_2, st_3, st_4, st_5, st_6, st_7, st_8, st_9, st_10, st_11, st_12, st_13, st_14, st_15, st_16, st_17, st_18, st_19, st_20, st_21, st_22, st_23, st_24, st_25, st_26, st_27, st_28, st_29, st_30, st_31, st_32, st_33, st_34, st_34a, st_35, st_36, st_37, st_38, st_39, st_42, st_44, st_45, st_47, st_40, st_41, st_46, st_48, st_49, st_43, go_0, go_s, cut_0, cut_s, get_0, get_s, put_0, put_1, put_s, clr_0, clr_s, unl_i, unl_l, unl_r, unl_n, nth_0, nth_s, sf_0, sf_s, cnd_0, cnd_1, cnd_2, cnd_3, cnd_4, cnd_5, fit_0, fit_1, fit_2, en_0, en_i, en_l, en_r, kb_t, kb_f, kb_n, sw_0, sw_s, ↓reduceIte, Nat.reduceEqDiff, Nat.left_eq_add, Nat.add_eq_left, Nat.add_left_cancel_iff, Nat.reduceAdd, Int.reduceLT, Int.reduceLE, Int.reduceAdd, Int.reduceSub, Int.reduceNeg, Int.reduceMul, Int.reduceToNat, Int.reduceEq, reduceCtorEq, true_and, and_true, true_or, or_true, and_false, false_and, or_false, false_or, not_true_eq_false, not_false_eq_true, Nat.le_refl, and_self, Sum.inl.injEq, Sum.inr.injEq, Option.some.injEq, hS_2, k_isref, pd_0, pd_s, List.cons_append, List.nil_append, Option.toList_none, Option.toList_some, tX12_says, rX12_says, h1, a3, a4, b3, b4, e1, Int.toNat_natCast]
    refine ⟨⟨by omega, by omega⟩, ⟨by omega, by omega⟩, ?_⟩
    refine cV (d' := 0) [vI (wp i), vI (wq i)] [] l_12_204 k1 hev (by omega) (p_go [74, 38] 40 ?_)
    by_cases hc : cm pc nw (wp i) (wq i) = 0
    · rw [if_pos hc] at he
      rw [hc]
      have hnx := ih (i + 1) n cl cs sd (by omega) hI he
      simp only [st_0, st_1, st_2, st_3, st_4, st_5, st_6, st_7, st_8, st_9, st_10, st_11, st_12, st_13, st_14, st_15, st_16, st_17, st_18, st_19, st_20, st_21, st_22, st_23, st_24, st_25, st_26, st_27, st_28, st_29, st_30, st_31, st_32, st_33, st_34, st_34a, st_35, st_36, st_37, st_38, st_39, st_42, st_44, st_45, st_47, st_40, st_41, st_46, st_48, st_49, st_43, go_0, go_s, cut_0, cut_s, get_0, get_s, put_0, put_1, put_s, clr_0, clr_s, unl_i, unl_l, unl_r, unl_n, nth_0, nth_s, sf_0, sf_s, cnd_0, cnd_1, cnd_2, cnd_3, cnd_4, cnd_5, fit_0, fit_1, fit_2, en_0, en_i, en_l, en_r, kb_t, kb_f, kb_n, sw_0, sw_s, ↓reduceIte, Nat.reduceEqDiff, Nat.left_eq_add, Nat.add_eq_left, Nat.add_left_cancel_iff, Nat.reduceAdd, Int.reduceLT, Int.reduceLE, Int.reduceAdd, Int.reduceSub, Int.reduceNeg, Int.reduceMul, Int.reduceToNat, Int.reduceEq, reduceCtorEq, true_and, and_true, true_or, or_true, and_false, false_and, or_false, false_or, not_true_eq_false, not_false_eq_true, Nat.le_refl, and_self, Sum.inl.injEq, Sum.inr.injEq, Option.some.injEq, hS_2, k_isref, pd_0, pd_s, List.cons_append, List.nil_append, Option.toList_none, Option.toList_some, tX12_says, rX12_says, nat1]
      exact ⟨⟨by omega, by omega⟩, hnx⟩
    · rw [if_neg hc] at he
      have hc1 : cm pc nw (wp i) (wq i) = 1 := by
        unfold cm at hc ⊢
        split <;> rename_i q
        · rw [if_pos q] at hc; exact absurd rfl hc
        · rfl
      rw [hc1]
      obtain ⟨c, ec⟩ : ∃ c : Nat, wl i = (c : Int) := ⟨(wl i).toNat, by omega⟩
      have hge2 := smj_ge (pc := pc) (nw := nw) (wp := wp) (wq := wq) (wl := wl) (wc := wc) (fun i hi => (hwl i hi).1) j (i + 1) ((n : Int) + wl i) (by omega)
      rw [← jwd_m (ws := ws) (k := k), he] at hge2
      obtain ⟨i1, i2, i3⟩ := hI
      have ej : jn 40 (cl k) (wl i) = (c : Int) := by
        unfold jn
        rw [i1, ec]
        split <;> omega
      rw [ej, ec, show (n : Int) + (c : Int) = ((n + c : Nat) : Int) by omega, i1, Int.toNat_natCast, Int.toNat_natCast] at he
      have hnx := ih (i + 1) (n + c) _ _ (va_cpy ss sd (20 * i) (40 * k + n) c) (by omega) ?_ he
      · simp only [st_0, st_1, st_2, st_3, st_4, st_5, st_6, st_7, st_8, st_9, st_10, st_11, st_12, st_13, st_14, st_15, st_16, st_17, st_18, st_19, st_20, st_21, st_22, st_23, st_24, st_25, st_26, st_27, st_28, st_29, st_30, st_31, st_32, st_33, st_34, st_34a, st_35, st_36, st_37, st_38, st_39, st_42, st_44, st_45, st_47, st_40, st_41, st_46, st_48, st_49, st_43, go_0, go_s, cut_0, cut_s, get_0, get_s, put_0, put_1, put_s, clr_0, clr_s, unl_i, unl_l, unl_r, unl_n, nth_0, nth_s, sf_0, sf_s, cnd_0, cnd_1, cnd_2, cnd_3, cnd_4, cnd_5, fit_0, fit_1, fit_2, en_0, en_i, en_l, en_r, kb_t, kb_f, kb_n, sw_0, sw_s, ↓reduceIte, Nat.reduceEqDiff, Nat.left_eq_add, Nat.add_eq_left, Nat.add_left_cancel_iff, Nat.reduceAdd, Int.reduceLT, Int.reduceLE, Int.reduceAdd, Int.reduceSub, Int.reduceNeg, Int.reduceMul, Int.reduceToNat, Int.reduceEq, reduceCtorEq, true_and, and_true, true_or, or_true, and_false, false_and, or_false, false_or, not_true_eq_false, not_false_eq_true, Nat.le_refl, and_self, Sum.inl.injEq, Sum.inr.injEq, Option.some.injEq, hS_2, k_isref, pd_0, pd_s, List.cons_append, List.nil_append, Option.toList_none, Option.toList_some, tX12_says, rX12_says]
        have hw := w_sayD (x := x) (d := d) (P := fun o h' => o = rI T.1 ∧ ∃ (m : Nat) (sd' : F_), T.1 = m ∧ sayI k m T.2.1 T.2.2 sd' sd0 ∧ h' = hS h 81 (cI 4800 sd')) (n0 := n) (c := c) (w := i) (k := k) (sd := sd) h1 a1 a2 hk (by omega) (by omega) (by omega) (by omega) (p_go [38] 40 (by
          simp only [st_0, st_1, st_2, st_3, st_4, st_5, st_6, st_7, st_8, st_9, st_10, st_11, st_12, st_13, st_14, st_15, st_16, st_17, st_18, st_19, st_20, st_21, st_22, st_23, st_24, st_25, st_26, st_27, st_28, st_29, st_30, st_31, st_32, st_33, st_34, st_34a, st_35, st_36, st_37, st_38, st_39, st_42, st_44, st_45, st_47, st_40, st_41, st_46, st_48, st_49, st_43, go_0, go_s, cut_0, cut_s, get_0, get_s, put_0, put_1, put_s, clr_0, clr_s, unl_i, unl_l, unl_r, unl_n, nth_0, nth_s, sf_0, sf_s, cnd_0, cnd_1, cnd_2, cnd_3, cnd_4, cnd_5, fit_0, fit_1, fit_2, en_0, en_i, en_l, en_r, kb_t, kb_f, kb_n, sw_0, sw_s, ↓reduceIte, Nat.reduceEqDiff, Nat.left_eq_add, Nat.add_eq_left, Nat.add_left_cancel_iff, Nat.reduceAdd, Int.reduceLT, Int.reduceLE, Int.reduceAdd, Int.reduceSub, Int.reduceNeg, Int.reduceMul, Int.reduceToNat, Int.reduceEq, reduceCtorEq, true_and, and_true, true_or, or_true, and_false, false_and, or_false, false_or, not_true_eq_false, not_false_eq_true, Nat.le_refl, and_self, Sum.inl.injEq, Sum.inr.injEq, Option.some.injEq, hS_2, k_isref, pd_0, pd_s, List.cons_append, List.nil_append, Option.toList_none, Option.toList_some, tX12_says, rX12_says, nat1]
          exact ⟨⟨by omega, by omega⟩, p_sub (by (repeat (first | exact le_nil | refine le_s ?_ | refine le_n ?_))) hnx⟩)) c 0 (by omega)
        rw [cpy_0] at hw
        exact hw
      · refine ⟨?_, fun u hu => ?_, fun z hz => ?_⟩
        · rw [fS_s]
          omega
        · unfold va_cpy
          by_cases cu : u < n
          · rw [if_neg (by omega), if_neg (by omega)]
            exact i2 u cu
          · rw [if_pos (by omega), if_pos (by omega)]
            have h5 := b2 (u - n) (by omega)
            rw [show 20 * i + (40 * k + u - (40 * k + n)) = 20 * i + (u - n) by omega, show i * 20 + (k * 40 + u - (k * 40 + n)) = i * 20 + (u - n) by omega]
            exact h5
        · unfold va_cpy
          rw [if_neg (by omega)]
          exact i3 z hz
end Msays83
