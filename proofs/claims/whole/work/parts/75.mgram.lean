/-! the reference: parsing; wrong, blanks -/
section Mgram75
variable {x : Bool} {d : Nat} {h h0 : PH} {s t : F_} {P : PO → PH → Prop} {R E : LxT} {f g : F_} {en : Nat}
theorem bhd_ge : ∀ (j i : Nat), i ≤ bhd f j i ∧ bhd f j i ≤ i + j
  | 0, i => by unfold bhd; omega
  | j + 1, i => by
    unfold bhd
    split
    · have := bhd_ge j (i + 1); omega
    · omega
theorem prs_fuel : ∀ (j j' rc : Nat) (S : PS), en - rc < j → en - rc < j' → prs R E f en j rc S = prs R E f en j' rc S
  | 0, _, _, _, h1, _ => by omega
  | _ + 1, 0, _, _, _, h2 => by omega
  | j + 1, j' + 1, rc, S, h1, h2 => by
    unfold prs
    by_cases c1 : en ≤ rc
    · rw [if_pos c1, if_pos c1]
    · rw [if_neg c1, if_neg c1]
      by_cases c2 : (prT R E f en rc S).1 ≠ 0
      · rw [if_pos c2, if_pos c2]
      · rw [if_neg c2, if_neg c2]
        exact prs_fuel j j' _ _ (by omega) (by omega)
/-- parsing from a place on -/
def PX (R E : LxT) (f : F_) (en rc : Nat) (S : PS) : Int × Nat × PS := prs R E f en (en + 1 - rc) rc S
theorem PX_stop {rc : Nat} {S : PS} (h : en ≤ rc) : PX R E f en rc S = (0, rc, S) := by
  unfold PX
  cases hj : en + 1 - rc with
  | zero => rfl
  | succ j => unfold prs; rw [if_pos h]
theorem PX_err {rc : Nat} {S : PS} (h : rc < en) (he : (prT R E f en rc S).1 ≠ 0) : PX R E f en rc S = ((prT R E f en rc S).1, rc, (prT R E f en rc S).2) := by
  unfold PX
  rw [show en + 1 - rc = (en - rc) + 1 by omega]
  unfold prs
  rw [if_neg (by omega), if_pos he]
theorem PX_go {rc : Nat} {S : PS} (h : rc < en) (he : (prT R E f en rc S).1 = 0) : PX R E f en rc S = PX R E f en (max (bhd f (en - rc) rc) (rc + 1)) (prT R E f en rc S).2 := by
  unfold PX
  rw [show en + 1 - rc = (en - rc) + 1 by omega]
  conv => lhs; unfold prs
  have hb := bhd_ge (f := f) (en - rc) rc
  rw [if_neg (by omega), if_neg (fun q => q he)]
  exact prs_fuel _ _ _ _ (by omega) (by omega)
/-- the answer of a parse before the commands are made, and its place -/
def prX (T : Int × Nat × PS) : Int × Int := if T.1 ≠ 0 then (T.1, T.2.1) else if T.2.2.1.2 = 1 ∨ T.2.2.1.1 ≠ -1 then (1, T.2.1) else (0, T.2.1)
theorem bhd_no {rc : Nat} (h : ¬ lt_ (f rc)) : bhd f (en - rc) rc = rc := by
  cases hj : en - rc with
  | zero => rfl
  | succ j => unfold bhd; rw [if_neg h]
/-- behind the blanks -/
def skp (f : F_) (en : Nat) : Nat → Nat → Nat
  | 0, rc => rc
  | j + 1, rc => if rc < en ∧ f rc = 32 then skp f en j (rc + 1) else rc
theorem skp_b : ∀ (j rc : Nat), rc ≤ skp f en j rc ∧ (rc ≤ en → skp f en j rc ≤ en)
  | 0, rc => ⟨Nat.le_refl _, fun h => h⟩
  | j + 1, rc => by
    unfold skp
    split
    · have := skp_b j (rc + 1)
      exact ⟨by omega, fun _ => this.2 (by omega)⟩
    · exact ⟨Nat.le_refl _, fun h => h⟩
theorem skp_PX {S : PS} : ∀ (j rc : Nat), PX R E f en (skp f en j rc) S = PX R E f en rc S
  | 0, rc => rfl
  | j + 1, rc => by
    unfold skp
    split
    · rename_i hc
      rw [skp_PX j (rc + 1)]
      have hb : bhd f (en - rc) rc = rc := bhd_no (by rw [hc.2]; decide)
      have ht : prT R E f en rc S = (0, S) := by
        unfold prT
        rw [hb, if_neg (by omega), hc.2]
        rfl
      rw [PX_go hc.1 (by rw [ht]), ht, hb, show max rc (rc + 1) = rc + 1 by omega]
    · rfl
theorem skp_end : ∀ (j rc : Nat), en - rc ≤ j → ¬ (skp f en j rc < en ∧ f (skp f en j rc) = 32)
  | 0, rc, h => by unfold skp; omega
  | j + 1, rc, h => by
    unfold skp
    split
    · exact skp_end j (rc + 1) (by omega)
    · assumption
set_option maxRecDepth 100000 in
set_option maxHeartbeats 4000000 in
theorem e_wrong {w p : Int} (h1 : h.2 57 = some (mO t)) : k_Ev x d 0 0 mX12_wrong [vR 57, vI w, vI p] h (fun o h' => o = rV ∧ h' = if 0 < t 33 then h else hS h 57 (mO (mS (mS t 33 w) 34 p))) := by
  refine k_enp 0 (Nat.le_of_ble_eq_true rfl) (p_go [] 40 ?_)
  by_cases hc : 0 < t 33
  · rw [if_pos hc]
    have e1 : ¬ t 33 ≤ 0 := by omega
    simp only [st_0, st_1, st_2, st_3, st_4, st_5, st_6, st_7, st_8, st_9, st_10, st_11, st_12, st_13, st_14, st_15, st_16, st_17, st_18, st_19, st_20, st_21, st_22, st_23, st_24, st_25, st_26, st_27, st_28, st_29, st_30, st_31, st_32, st_33, st_34, st_34a, st_35, st_36, st_37, st_38, st_39, st_42, st_44, st_45, st_47, st_40, st_41, st_46, st_48, st_49, st_43, go_0, go_s, cut_0, cut_s, get_0, get_s, put_0, put_1, put_s, clr_0, clr_s, unl_i, unl_l, unl_r, unl_n, nth_0, nth_s, sf_0, sf_s, cnd_0, cnd_1, cnd_2, cnd_3, cnd_4, cnd_5, fit_0, fit_1, fit_2, en_0, en_i, en_l, en_r, kb_t, kb_f, kb_n, sw_0, sw_s, ↓reduceIte, Nat.reduceEqDiff, Nat.left_eq_add, Nat.add_eq_left, Nat.add_left_cancel_iff, Nat.reduceAdd, Int.reduceLT, Int.reduceLE, Int.reduceAdd, Int.reduceSub, Int.reduceNeg, Int.reduceMul, Int.reduceToNat, Int.reduceEq, reduceCtorEq, true_and, and_true, true_or, or_true, and_false, false_and, or_false, false_or, not_true_eq_false, not_false_eq_true, Nat.le_refl, and_self, Sum.inl.injEq, Sum.inr.injEq, Option.some.injEq, hS_2, k_isref, pd_0, pd_s, List.cons_append, List.nil_append, Option.toList_none, Option.toList_some, tX12_wrong, rX12_wrong, h1, e1]
  · rw [if_neg hc]
    have e1 : t 33 ≤ 0 := by omega
    simp only [st_0, st_1, st_2, st_3, st_4, st_5, st_6, st_7, st_8, st_9, st_10, st_11, st_12, st_13, st_14, st_15, st_16, st_17, st_18, st_19, st_20, st_21, st_22, st_23, st_24, st_25, st_26, st_27, st_28, st_29, st_30, st_31, st_32, st_33, st_34, st_34a, st_35, st_36, st_37, st_38, st_39, st_42, st_44, st_45, st_47, st_40, st_41, st_46, st_48, st_49, st_43, go_0, go_s, cut_0, cut_s, get_0, get_s, put_0, put_1, put_s, clr_0, clr_s, unl_i, unl_l, unl_r, unl_n, nth_0, nth_s, sf_0, sf_s, cnd_0, cnd_1, cnd_2, cnd_3, cnd_4, cnd_5, fit_0, fit_1, fit_2, en_0, en_i, en_l, en_r, kb_t, kb_f, kb_n, sw_0, sw_s, ↓reduceIte, Nat.reduceEqDiff, Nat.left_eq_add, Nat.add_eq_left, Nat.add_left_cancel_iff, Nat.reduceAdd, Int.reduceLT, Int.reduceLE, Int.reduceAdd, Int.reduceSub, Int.reduceNeg, Int.reduceMul, Int.reduceToNat, Int.reduceEq, reduceCtorEq, true_and, and_true, true_or, or_true, and_false, false_and, or_false, false_or, not_true_eq_false, not_false_eq_true, Nat.le_refl, and_self, Sum.inl.injEq, Sum.inr.injEq, Option.some.injEq, hS_2, k_isref, pd_0, pd_s, List.cons_append, List.nil_append, Option.toList_none, Option.toList_some, tX12_wrong, rX12_wrong, h1, e1, hS_hS]
    rfl
set_option maxRecDepth 100000 in
set_option maxHeartbeats 4000000 in
theorem w_blanks (h77 : h.2 62 = some (.inl (1, 400, g))) (h9 : t 9 = en) (hen : en ≤ 400) (hfg : ∀ k, k < en → f k = g k % 256) (hd : 1 ≤ d) : ∀ (j rc : Nat), rc ≤ en → en - rc ≤ j →
    k_Wp x d 0 0 mX12_blanks (fun o h' => o = rV ∧ h' = hS h 57 (mO (mS t 32 (skp f en j rc : Nat)))) 0 0 0 [some (vR 57)] [] (hS h 57 (mO (mS t 32 rc))) := by
  intro j
  induction j with
  | zero =>
    intro rc h1 h2
    have k1 : (hS h 57 (mO (mS t 32 rc))).2 57 = some (mO (mS t 32 rc)) := hS_s _ _ _
    have e1 : (mS t 32 rc 9 ≤ mS t 32 rc 32) = True := eq_true (by show t 9 ≤ (rc : Int); omega)
    unfold skp
    generalize hS h 57 (mO (mS t 32 rc)) = h3 at k1 ⊢
    refine p_go [] 40 ?_
    simp only [st_0, st_1, st_2, st_3, st_4, st_5, st_6, st_7, st_8, st_9, st_10, st_11, st_12, st_13, st_14, st_15, st_16, st_17, st_18, st_19, st_20, st_21, st_22, st_23, st_24, st_25, st_26, st_27, st_28, st_29, st_30, st_31, st_32, st_33, st_34, st_34a, st_35, st_36, st_37, st_38, st_39, st_42, st_44, st_45, st_47, st_40, st_41, st_46, st_48, st_49, st_43, go_0, go_s, cut_0, cut_s, get_0, get_s, put_0, put_1, put_s, clr_0, clr_s, unl_i, unl_l, unl_r, unl_n, nth_0, nth_s, sf_0, sf_s, cnd_0, cnd_1, cnd_2, cnd_3, cnd_4, cnd_5, fit_0, fit_1, fit_2, en_0, en_i, en_l, en_r, kb_t, kb_f, kb_n, sw_0, sw_s, ↓reduceIte, Nat.reduceEqDiff, Nat.left_eq_add, Nat.add_eq_left, Nat.add_left_cancel_iff, Nat.reduceAdd, Int.reduceLT, Int.reduceLE, Int.reduceAdd, Int.reduceSub, Int.reduceNeg, Int.reduceMul, Int.reduceToNat, Int.reduceEq, reduceCtorEq, true_and, and_true, true_or, or_true, and_false, false_and, or_false, false_or, not_true_eq_false, not_false_eq_true, Nat.le_refl, and_self, Sum.inl.injEq, Sum.inr.injEq, Option.some.injEq, hS_2, k_isref, pd_0, pd_s, List.cons_append, List.nil_append, Option.toList_none, Option.toList_some, tX12_blanks, rX12_blanks, k1, e1]
  | succ j ih =>
    intro rc h1 h2
    have k1 : (hS h 57 (mO (mS t 32 rc))).2 57 = some (mO (mS t 32 rc)) := hS_s _ _ _
    have k2 : (hS h 57 (mO (mS t 32 rc))).2 62 = some (.inl (1, 400, g)) := (hS_n (by decide)).trans h77
    have e9 : mS t 32 rc 9 = en := h9
    have e32 : mS t 32 rc 32 = (rc : Int) := rfl
    by_cases hrc : rc < en
    · have e1 : ¬ (en : Int) ≤ (rc : Int) := by omega
      have hev := e_byteAt (x := x) (d := 0) (k := rc) k1 k2 (by rw [e9]; omega)
      rw [e9, if_pos (by omega), ← hfg rc hrc] at hev
      have hih := ih (rc + 1) (by omega) (by omega)
      rw [← hS_hS (c := mO (mS t 32 rc)) (c' := mO (mS t 32 ((rc + 1 : Nat) : Int)))] at hih
      have hm : mO (mS t 32 ((rc + 1 : Nat) : Int)) = mO (mS (mS t 32 rc) 32 ((rc : Int) + 1)) := by rw [mS_mS, nat1]
      rw [hm] at hih
      unfold skp
      have hH : ∀ v : Int, hS h 57 (mO (mS t 32 v)) = hS (hS h 57 (mO (mS t 32 rc))) 57 (mO (mS t 32 v)) := fun v => hS_hS.symm
      have hP : ∀ v : Nat, (fun o h' => o = rV ∧ h' = hS h 57 (mO (mS t 32 (v : Int)))) = (fun (o : PO) (h' : PH) => o = rV ∧ h' = hS (hS h 57 (mO (mS t 32 rc))) 57 (mO (mS t 32 (v : Int)))) := fun v => by rw [hH]
      by_cases h32 : f rc = 32
      · rw [if_pos ⟨hrc, h32⟩]
        have e2 : (f rc = 32) = True := eq_true h32
        refine p_go [] 40 ?_
        generalize hS h 57 (mO (mS t 32 rc)) = h3 at k1 hev hih ⊢
        simp only [st_0, st_1, st_2, st_3, st_4, st_5, st_6, st_7, st_8, st_9, st_10, st_11, st_12, st_13, st_14, st_15, st_16, st_17, st_18, st_19, st_20, st_21, st_22, st_23, st_24, st_25, st_26, st_27, st_28, st_29, st_30, st_31, st_32, st_33, st_34, st_34a, st_35, st_36, st_37, st_38, st_39, st_42, st_44, st_45, st_47, st_40, st_41, st_46, st_48, st_49, st_43, go_0, go_s, cut_0, cut_s, get_0, get_s, put_0, put_1, put_s, clr_0, clr_s, unl_i, unl_l, unl_r, unl_n, nth_0, nth_s, sf_0, sf_s, cnd_0, cnd_1, cnd_2, cnd_3, cnd_4, cnd_5, fit_0, fit_1, fit_2, en_0, en_i, en_l, en_r, kb_t, kb_f, kb_n, sw_0, sw_s, ↓reduceIte, Nat.reduceEqDiff, Nat.left_eq_add, Nat.add_eq_left, Nat.add_left_cancel_iff, Nat.reduceAdd, Int.reduceLT, Int.reduceLE, Int.reduceAdd, Int.reduceSub, Int.reduceNeg, Int.reduceMul, Int.reduceToNat, Int.reduceEq, reduceCtorEq, true_and, and_true, true_or, or_true, and_false, false_and, or_false, false_or, not_true_eq_false, not_false_eq_true, Nat.le_refl, and_self, Sum.inl.injEq, Sum.inr.injEq, Option.some.injEq, hS_2, k_isref, pd_0, pd_s, List.cons_append, List.nil_append, Option.toList_none, Option.toList_some, tX12_blanks, rX12_blanks, k1, e9, e32, e1]
        refine cV (d' := 0) [vI rc] [] l_12_146 k1 hev (by omega) (p_go [0] 40 ?_)
        simp only [st_0, st_1, st_2, st_3, st_4, st_5, st_6, st_7, st_8, st_9, st_10, st_11, st_12, st_13, st_14, st_15, st_16, st_17, st_18, st_19, st_20, st_21, st_22, st_23, st_24, st_25, st_26, st_27, st_28, st_29, st_30, st_31, st_32, st_33, st_34, st_34a, st_35, st_36, st_37, st_38, st_39, st_42, st_44, st_45, st_47, st_40, st_41, st_46, st_48, st_49, st_43, go_0, go_s, cut_0, cut_s, get_0, get_s, put_0, put_1, put_s, clr_0, clr_s, unl_i, unl_l, unl_r, unl_n, nth_0, nth_s, sf_0, sf_s, cnd_0, cnd_1, cnd_2, cnd_3, cnd_4, cnd_5, fit_0, fit_1, fit_2, en_0, en_i, en_l, en_r, kb_t, kb_f, kb_n, sw_0, sw_s, ↓reduceIte, Nat.reduceEqDiff, Nat.left_eq_add, Nat.add_eq_left, Nat.add_left_cancel_iff, Nat.reduceAdd, Int.reduceLT, Int.reduceLE, Int.reduceAdd, Int.reduceSub, Int.reduceNeg, Int.reduceMul, Int.reduceToNat, Int.reduceEq, reduceCtorEq, true_and, and_true, true_or, or_true, and_false, false_and, or_false, false_or, not_true_eq_false, not_false_eq_true, Nat.le_refl, and_self, Sum.inl.injEq, Sum.inr.injEq, Option.some.injEq, hS_2, k_isref, pd_0, pd_s, List.cons_append, List.nil_append, Option.toList_none, Option.toList_some, tX12_blanks, rX12_blanks, k1, e2, e32]
        exact ⟨⟨by omega, by omega⟩, hih⟩
      · rw [if_neg (fun q => h32 q.2)]
        have e2 : (f rc = 32) = False := eq_false h32
        refine p_go [] 40 ?_
        generalize hS h 57 (mO (mS t 32 rc)) = h3 at k1 hev hih ⊢
        simp only [st_0, st_1, st_2, st_3, st_4, st_5, st_6, st_7, st_8, st_9, st_10, st_11, st_12, st_13, st_14, st_15, st_16, st_17, st_18, st_19, st_20, st_21, st_22, st_23, st_24, st_25, st_26, st_27, st_28, st_29, st_30, st_31, st_32, st_33, st_34, st_34a, st_35, st_36, st_37, st_38, st_39, st_42, st_44, st_45, st_47, st_40, st_41, st_46, st_48, st_49, st_43, go_0, go_s, cut_0, cut_s, get_0, get_s, put_0, put_1, put_s, clr_0, clr_s, unl_i, unl_l, unl_r, unl_n, nth_0, nth_s, sf_0, sf_s, cnd_0, cnd_1, cnd_2, cnd_3, cnd_4, cnd_5, fit_0, fit_1, fit_2, en_0, en_i, en_l, en_r, kb_t, kb_f, kb_n, sw_0, sw_s, ↓reduceIte, Nat.reduceEqDiff, Nat.left_eq_add, Nat.add_eq_left, Nat.add_left_cancel_iff, Nat.reduceAdd, Int.reduceLT, Int.reduceLE, Int.reduceAdd, Int.reduceSub, Int.reduceNeg, Int.reduceMul, Int.reduceToNat, Int.reduceEq, reduceCtorEq, true_and, and_true, true_or, or_true, and_false, false_and, or_false, false_or, not_true_eq_false, not_false_eq_true, Nat.le_refl, and_self, Sum.inl.injEq, Sum.inr.injEq, Option.some.injEq, hS_2, k_isref, pd_0, pd_s, List.cons_append, List.nil_append, Option.toList_none, Option.toList_some, tX12_blanks, rX12_blanks, k1, e9, e32, e1]
        refine cV (d' := 0) [vI rc] [] l_12_146 k1 hev (by omega) (p_go [0] 40 ?_)
        simp only [st_0, st_1, st_2, st_3, st_4, st_5, st_6, st_7, st_8, st_9, st_10, st_11, st_12, st_13, st_14, st_15, st_16, st_17, st_18, st_19, st_20, st_21, st_22, st_23, st_24, st_25, st_26, st_27, st_28, st_29, st_30, st_31, st_32, st_33, st_34, st_34a, st_35, st_36, st_37, st_38, st_39, st_42, st_44, st_45, st_47, st_40, st_41, st_46, st_48, st_49, st_43, go_0, go_s, cut_0, cut_s, get_0, get_s, put_0, put_1, put_s, clr_0, clr_s, unl_i, unl_l, unl_r, unl_n, nth_0, nth_s, sf_0, sf_s, cnd_0, cnd_1, cnd_2, cnd_3, cnd_4, cnd_5, fit_0, fit_1, fit_2, en_0, en_i, en_l, en_r, kb_t, kb_f, kb_n, sw_0, sw_s, ↓reduceIte, Nat.reduceEqDiff, Nat.left_eq_add, Nat.add_eq_left, Nat.add_left_cancel_iff, Nat.reduceAdd, Int.reduceLT, Int.reduceLE, Int.reduceAdd, Int.reduceSub, Int.reduceNeg, Int.reduceMul, Int.reduceToNat, Int.reduceEq, reduceCtorEq, true_and, and_true, true_or, or_true, and_false, false_and, or_false, false_or, not_true_eq_false, not_false_eq_true, Nat.le_refl, and_self, Sum.inl.injEq, Sum.inr.injEq, Option.some.injEq, hS_2, k_isref, pd_0, pd_s, List.cons_append, List.nil_append, Option.toList_none, Option.toList_some, tX12_blanks, rX12_blanks, e2]
    · have e1 : (en : Int) ≤ (rc : Int) := by omega
      unfold skp
      rw [if_neg (fun q => hrc q.1)]
      generalize hS h 57 (mO (mS t 32 rc)) = h3 at k1 ⊢
      refine p_go [] 40 ?_
      simp only [st_0, st_1, st_2, st_3, st_4, st_5, st_6, st_7, st_8, st_9, st_10, st_11, st_12, st_13, st_14, st_15, st_16, st_17, st_18, st_19, st_20, st_21, st_22, st_23, st_24, st_25, st_26, st_27, st_28, st_29, st_30, st_31, st_32, st_33, st_34, st_34a, st_35, st_36, st_37, st_38, st_39, st_42, st_44, st_45, st_47, st_40, st_41, st_46, st_48, st_49, st_43, go_0, go_s, cut_0, cut_s, get_0, get_s, put_0, put_1, put_s, clr_0, clr_s, unl_i, unl_l, unl_r, unl_n, nth_0, nth_s, sf_0, sf_s, cnd_0, cnd_1, cnd_2, cnd_3, cnd_4, cnd_5, fit_0, fit_1, fit_2, en_0, en_i, en_l, en_r, kb_t, kb_f, kb_n, sw_0, sw_s, ↓reduceIte, Nat.reduceEqDiff, Nat.left_eq_add, Nat.add_eq_left, Nat.add_left_cancel_iff, Nat.reduceAdd, Int.reduceLT, Int.reduceLE, Int.reduceAdd, Int.reduceSub, Int.reduceNeg, Int.reduceMul, Int.reduceToNat, Int.reduceEq, reduceCtorEq, true_and, and_true, true_or, or_true, and_false, false_and, or_false, false_or, not_true_eq_false, not_false_eq_true, Nat.le_refl, and_self, Sum.inl.injEq, Sum.inr.injEq, Option.some.injEq, hS_2, k_isref, pd_0, pd_s, List.cons_append, List.nil_append, Option.toList_none, Option.toList_some, tX12_blanks, rX12_blanks, k1, e9, e32, e1]
set_option maxRecDepth 100000 in
set_option maxHeartbeats 4000000 in
theorem e_blanks {rc : Nat} (h1 : h.2 57 = some (mO t)) (h77 : h.2 62 = some (.inl (1, 400, g))) (h9 : t 9 = en) (h32 : t 32 = rc) (hen : en ≤ 400) (hrc : rc ≤ en) (hfg : ∀ k, k < en → f k = g k % 256) (hd : 1 ≤ d) : k_Ev x d 0 0 mX12_blanks [vR 57] h (fun o h' => o = rV ∧ h' = hS h 57 (mO (mS t 32 (skp f en (en - rc) rc : Nat)))) := by
  have hw := w_blanks (x := x) (d := d) (h := h) (t := t) h77 h9 hen hfg hd (en - rc) rc hrc (Nat.le_refl _)
  rw [mS_id h32, hS_id h1] at hw
  exact k_enp 0 (Nat.le_of_ble_eq_true rfl) hw
end Mgram75
