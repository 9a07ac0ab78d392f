/-! the reference: lists -/
section Mlist81
variable {x : Bool} {d : Nat} {h h0 : PH} {t : F_} {P : PO → PH → Prop} {pc : Nat} {op oq pt ob : F_}
set_option maxRecDepth 100000 in
set_option maxHeartbeats 4000000 in
theorem e_isCome {pi : F_} {z a : Int} (h1 : h.2 57 = some (mO t)) (h99 : h.2 84 = some (cI 8 pi)) (hpc : pc ≤ 8) (hz : -1 ≤ z ∧ z < pc) : k_Ev x d 0 0 mX12_isCome [vR 57, vI z, vI a] h (fun o h' => o = rI (cm pc pi z a) ∧ h' = h) := by
  unfold cm
  refine k_enp 0 (Nat.le_of_ble_eq_true rfl) (p_go [] 40 ?_)
  by_cases hc : z < 0
  · rw [if_neg (by omega)]
    simp only [st_0, st_1, st_2, st_3, st_4, st_5, st_6, st_7, st_8, st_9, st_10, st_11, st_12, st_13, st_14, st_15, st_16, st_17, st_18, st_19, st_20, st_21, st_22, st_23, st_24, st_25, st_26, st_27, st_28, st_29, st_30, st_31, st_32, st_33, st_34, st_34a, st_35, st_36, st_37, st_38, st_39, st_42, st_44, st_45, st_47, st_40, st_41, st_46, st_48, st_49, st_43, go_0, go_s, cut_0, cut_s, get_0, get_s, put_0, put_1, put_s, clr_0, clr_s, unl_i, unl_l, unl_r, unl_n, nth_0, nth_s, sf_0, sf_s, cnd_0, cnd_1, cnd_2, cnd_3, cnd_4, cnd_5, fit_0, fit_1, fit_2, en_0, en_i, en_l, en_r, kb_t, kb_f, kb_n, sw_0, sw_s, ↓reduceIte, Nat.reduceEqDiff, Nat.left_eq_add, Nat.add_eq_left, Nat.add_left_cancel_iff, Nat.reduceAdd, Int.reduceLT, Int.reduceLE, Int.reduceAdd, Int.reduceSub, Int.reduceNeg, Int.reduceMul, Int.reduceToNat, Int.reduceEq, reduceCtorEq, true_and, and_true, true_or, or_true, and_false, false_and, or_false, false_or, not_true_eq_false, not_false_eq_true, Nat.le_refl, and_self, Sum.inl.injEq, Sum.inr.injEq, Option.some.injEq, hS_2, k_isref, pd_0, pd_s, List.cons_append, List.nil_append, Option.toList_none, Option.toList_some, tX12_isCome, rX12_isCome, h1, hc]
  · by_cases he : pi z.toNat = a
    · rw [if_neg (fun q => q.2 he)]
      simp only [st_0, st_1, st_2, st_3, st_4, st_5, st_6, st_7, st_8, st_9, st_10, st_11, st_12, st_13, st_14, st_15, st_16, st_17, st_18, st_19, st_20, st_21, st_22, st_23, st_24, st_25, st_26, st_27, st_28, st_29, st_30, st_31, st_32, st_33, st_34, st_34a, st_35, st_36, st_37, st_38, st_39, st_42, st_44, st_45, st_47, st_40, st_41, st_46, st_48, st_49, st_43, go_0, go_s, cut_0, cut_s, get_0, get_s, put_0, put_1, put_s, clr_0, clr_s, unl_i, unl_l, unl_r, unl_n, nth_0, nth_s, sf_0, sf_s, cnd_0, cnd_1, cnd_2, cnd_3, cnd_4, cnd_5, fit_0, fit_1, fit_2, en_0, en_i, en_l, en_r, kb_t, kb_f, kb_n, sw_0, sw_s, ↓reduceIte, Nat.reduceEqDiff, Nat.left_eq_add, Nat.add_eq_left, Nat.add_left_cancel_iff, Nat.reduceAdd, Int.reduceLT, Int.reduceLE, Int.reduceAdd, Int.reduceSub, Int.reduceNeg, Int.reduceMul, Int.reduceToNat, Int.reduceEq, reduceCtorEq, true_and, and_true, true_or, or_true, and_false, false_and, or_false, false_or, not_true_eq_false, not_false_eq_true, Nat.le_refl, and_self, Sum.inl.injEq, Sum.inr.injEq, Option.some.injEq, hS_2, k_isref, pd_0, pd_s, List.cons_append, List.nil_append, Option.toList_none, Option.toList_some, tX12_isCome, rX12_isCome, h1, h99, hc, he]
      exact ⟨by omega, by omega⟩
    · rw [if_pos ⟨by omega, he⟩]
      simp only [st_0, st_1, st_2, st_3, st_4, st_5, st_6, st_7, st_8, st_9, st_10, st_11, st_12, st_13, st_14, st_15, st_16, st_17, st_18, st_19, st_20, st_21, st_22, st_23, st_24, st_25, st_26, st_27, st_28, st_29, st_30, st_31, st_32, st_33, st_34, st_34a, st_35, st_36, st_37, st_38, st_39, st_42, st_44, st_45, st_47, st_40, st_41, st_46, st_48, st_49, st_43, go_0, go_s, cut_0, cut_s, get_0, get_s, put_0, put_1, put_s, clr_0, clr_s, unl_i, unl_l, unl_r, unl_n, nth_0, nth_s, sf_0, sf_s, cnd_0, cnd_1, cnd_2, cnd_3, cnd_4, cnd_5, fit_0, fit_1, fit_2, en_0, en_i, en_l, en_r, kb_t, kb_f, kb_n, sw_0, sw_s, ↓reduceIte, Nat.reduceEqDiff, Nat.left_eq_add, Nat.add_eq_left, Nat.add_left_cancel_iff, Nat.reduceAdd, Int.reduceLT, Int.reduceLE, Int.reduceAdd, Int.reduceSub, Int.reduceNeg, Int.reduceMul, Int.reduceToNat, Int.reduceEq, reduceCtorEq, true_and, and_true, true_or, or_true, and_false, false_and, or_false, false_or, not_true_eq_false, not_false_eq_true, Nat.le_refl, and_self, Sum.inl.injEq, Sum.inr.injEq, Option.some.injEq, hS_2, k_isref, pd_0, pd_s, List.cons_append, List.nil_append, Option.toList_none, Option.toList_some, tX12_isCome, rX12_isCome, h1, h99, hc, he]
      exact ⟨by omega, by omega⟩
set_option maxRecDepth 100000 in
set_option maxHeartbeats 4000000 in
theorem e_most {pl pm : F_} {p : Nat} (h1 : h.2 57 = some (mO t)) (h93 : h.2 78 = some (cI 8 pl)) (h94 : h.2 79 = some (.inl (2, 8, pm))) (hpc : pc ≤ 8) (hp : p < pc) (hpl : pl p = pt p) (hpm : pm p = ob p) (hpt : 1 ≤ pt p ∧ pt p ≤ 400) : k_Ev x d 0 0 mX12_most [vR 57, vI p] h (fun o h' => o = rI (lstP pt ob p) ∧ h' = h) := by
  refine k_enp 0 (Nat.le_of_ble_eq_true rfl) (p_go [] 40 ?_)
  unfold lstP
  by_cases hc : ob p = 0
  · rw [if_pos hc]
    have e1 : (pm p = 0) = True := eq_true (by omega)
    have e2 : pl p - 1 = pt p - 1 := by omega
    simp only [st_0, st_1, st_2, st_3, st_4, st_5, st_6, st_7, st_8, st_9, st_10, st_11, st_12, st_13, st_14, st_15, st_16, st_17, st_18, st_19, st_20, st_21, st_22, st_23, st_24, st_25, st_26, st_27, st_28, st_29, st_30, st_31, st_32, st_33, st_34, st_34a, st_35, st_36, st_37, st_38, st_39, st_42, st_44, st_45, st_47, st_40, st_41, st_46, st_48, st_49, st_43, go_0, go_s, cut_0, cut_s, get_0, get_s, put_0, put_1, put_s, clr_0, clr_s, unl_i, unl_l, unl_r, unl_n, nth_0, nth_s, sf_0, sf_s, cnd_0, cnd_1, cnd_2, cnd_3, cnd_4, cnd_5, fit_0, fit_1, fit_2, en_0, en_i, en_l, en_r, kb_t, kb_f, kb_n, sw_0, sw_s, ↓reduceIte, Nat.reduceEqDiff, Nat.left_eq_add, Nat.add_eq_left, Nat.add_left_cancel_iff, Nat.reduceAdd, Int.reduceLT, Int.reduceLE, Int.reduceAdd, Int.reduceSub, Int.reduceNeg, Int.reduceMul, Int.reduceToNat, Int.reduceEq, reduceCtorEq, true_and, and_true, true_or, or_true, and_false, false_and, or_false, false_or, not_true_eq_false, not_false_eq_true, Nat.le_refl, and_self, Sum.inl.injEq, Sum.inr.injEq, Option.some.injEq, hS_2, k_isref, pd_0, pd_s, List.cons_append, List.nil_append, Option.toList_none, Option.toList_some, tX12_most, rX12_most, h1, h93, h94, e1, e2, Int.toNat_natCast]
    exact ⟨⟨by omega, by omega⟩, ⟨by omega, by omega⟩, by omega, by omega⟩
  · rw [if_neg hc]
    have e1 : (pm p = 0) = False := eq_false (by omega)
    have e2 : pl p - 0 = pt p := by omega
    simp only [st_0, st_1, st_2, st_3, st_4, st_5, st_6, st_7, st_8, st_9, st_10, st_11, st_12, st_13, st_14, st_15, st_16, st_17, st_18, st_19, st_20, st_21, st_22, st_23, st_24, st_25, st_26, st_27, st_28, st_29, st_30, st_31, st_32, st_33, st_34, st_34a, st_35, st_36, st_37, st_38, st_39, st_42, st_44, st_45, st_47, st_40, st_41, st_46, st_48, st_49, st_43, go_0, go_s, cut_0, cut_s, get_0, get_s, put_0, put_1, put_s, clr_0, clr_s, unl_i, unl_l, unl_r, unl_n, nth_0, nth_s, sf_0, sf_s, cnd_0, cnd_1, cnd_2, cnd_3, cnd_4, cnd_5, fit_0, fit_1, fit_2, en_0, en_i, en_l, en_r, kb_t, kb_f, kb_n, sw_0, sw_s, ↓reduceIte, Nat.reduceEqDiff, Nat.left_eq_add, Nat.add_eq_left, Nat.add_left_cancel_iff, Nat.reduceAdd, Int.reduceLT, Int.reduceLE, Int.reduceAdd, Int.reduceSub, Int.reduceNeg, Int.reduceMul, Int.reduceToNat, Int.reduceEq, reduceCtorEq, true_and, and_true, true_or, or_true, and_false, false_and, or_false, false_or, not_true_eq_false, not_false_eq_true, Nat.le_refl, and_self, Sum.inl.injEq, Sum.inr.injEq, Option.some.injEq, hS_2, k_isref, pd_0, pd_s, List.cons_append, List.nil_append, Option.toList_none, Option.toList_some, tX12_most, rX12_most, h1, h93, h94, e1, e2, Int.toNat_natCast]
    exact ⟨⟨by omega, by omega⟩, ⟨by omega, by omega⟩, by omega, by omega⟩
/-- alike below the points -/
abbrev agr (pc : Nat) (a b : F_) : Prop := ∀ k, k < pc → a k = b k
theorem cm_agr {a b : F_} {z v : Int} {p : Nat} (h : agr p a b) (hz : z < p) : cm pc a z v = cm pc b z v := by
  unfold cm
  by_cases c : 0 ≤ z ∧ z < (pc : Int)
  · rw [h z.toNat (by omega)]
  · rw [if_neg (fun q => c q.1), if_neg (fun q => c q.1)]
theorem stl_agr (hop : ∀ k : Nat, k < pc → -1 ≤ op k ∧ op k < k) : ∀ (j p : Nat) (a b : F_), p + j ≤ pc → agr p a b → agr (p + j) (stl pc op oq j p a) (stl pc op oq j p b)
  | 0, p, a, b, _, h => h
  | j + 1, p, a, b, hj, h => by
    unfold stl
    have e := cm_agr (pc := pc) (v := oq p) h (hop p (by omega)).2
    rw [e, show p + (j + 1) = (p + 1) + j by omega]
    refine stl_agr hop j (p + 1) _ _ (by omega) (fun k hk => ?_)
    by_cases ek : k = p
    · subst ek; rw [fS_s, fS_s]
    · rw [fS_n ek, fS_n ek]; exact h k (by omega)
theorem stp_agr (hop : ∀ k : Nat, k < pc → -1 ≤ op k ∧ op k < k) {a b : F_} (h : agr pc a b) : ∀ p, p ≤ pc → (stp pc op oq pt ob a p = none ∧ stp pc op oq pt ob b p = none) ∨ ∃ a' b', stp pc op oq pt ob a p = some a' ∧ stp pc op oq pt ob b p = some b' ∧ agr pc a' b'
  | 0, _ => Or.inl ⟨rfl, rfl⟩
  | p + 1, hp => by
    unfold stp
    rw [h p (by omega)]
    by_cases c : b p ≠ -1 ∧ b p < lstP pt ob p
    · rw [if_pos c, if_pos c]
      refine Or.inr ⟨_, _, rfl, rfl, ?_⟩
      have := stl_agr (oq := oq) hop (pc - (p + 1)) (p + 1) (fS a p (b p + 1)) (fS b p (b p + 1)) (by omega) (fun k hk => by
        by_cases ek : k = p
        · subst ek; rw [fS_s, fS_s]
        · rw [fS_n ek, fS_n ek]; exact h k (by omega))
      rw [show p + 1 + (pc - (p + 1)) = pc by omega] at this
      exact this
    · rw [if_neg c, if_neg c]
      exact stp_agr hop h p (by omega)
/-- picks as they may be -/
def nwB (pc : Nat) (pt ob nw : F_) : Prop := ∀ k, k < pc → -1 ≤ nw k ∧ nw k ≤ lstP pt ob k
theorem lstP_0 {p : Nat} (hpt : 1 ≤ pt p) : 0 ≤ lstP pt ob p := by
  unfold lstP
  split <;> omega
theorem stl_B (hpt : ∀ k : Nat, k < pc → 1 ≤ pt k) : ∀ (j p : Nat) (nw : F_), p + j ≤ pc → (∀ k, k < p → -1 ≤ nw k ∧ nw k ≤ lstP pt ob k) → ∀ k, k < p + j → -1 ≤ stl pc op oq j p nw k ∧ stl pc op oq j p nw k ≤ lstP pt ob k
  | 0, p, nw, _, h, k, hk => h k hk
  | j + 1, p, nw, hj, h, k, hk => by
    unfold stl
    refine stl_B hpt j (p + 1) _ (by omega) (fun k' hk' => ?_) k (by omega)
    have hl := lstP_0 (ob := ob) (hpt p (by omega))
    by_cases ek : k' = p
    · subst ek; rw [fS_s]; split <;> omega
    · rw [fS_n ek]; exact h k' (by omega)
theorem stp_B (hpt : ∀ k : Nat, k < pc → 1 ≤ pt k) {nw : F_} (h : nwB pc pt ob nw) : ∀ p, p ≤ pc → ∀ nw', stp pc op oq pt ob nw p = some nw' → nwB pc pt ob nw'
  | 0, _, nw', he => by cases he
  | p + 1, hp, nw', he => by
    unfold stp at he
    split at he
    · rename_i c
      cases he
      have := stl_B (op := op) (oq := oq) (ob := ob) hpt (pc - (p + 1)) (p + 1) (fS nw p (nw p + 1)) (by omega) (fun k hk => by
        by_cases ek : k = p
        · subst ek; rw [fS_s]; have := h k (by omega); omega
        · rw [fS_n ek]; exact h k (by omega))
      rw [show p + 1 + (pc - (p + 1)) = pc by omega] at this
      exact this
    · exact stp_B hpt h p (by omega) nw' he
/-- the picks of all commands, one row each; 121: too many -/
def lsC (pc : Nat) (op oq pt ob : F_) : Nat → Nat → F_ → F_ → Int × F_
  | 0, _, _, np => (121, np)
  | j + 1, n, nw, np => match stp pc op oq pt ob nw pc with
    | none => (((n + 1 : Nat) : Int), va_cpy nw np 0 (8 * n) pc)
    | some nw' => lsC pc op oq pt ob j (n + 1) nw' (va_cpy nw np 0 (8 * n) pc)
theorem cpy_agr {a b np : F_} {o : Nat} (h : agr pc a b) : va_cpy a np 0 o pc = va_cpy b np 0 o pc := by
  funext j
  unfold va_cpy
  by_cases c : o ≤ j ∧ j < o + pc
  · rw [if_pos (by omega), if_pos (by omega)]
    exact h _ (by omega)
  · rw [if_neg (by omega), if_neg (by omega)]
/-- the reference's points, for all that are closed -/
def MPt (h : PH) (t : F_) (pc : Nat) (op oq pt ob : F_) : Prop := h.2 57 = some (mO t) ∧ t 31 = pc ∧ ∃ pp pa pl pm, h.2 76 = some (cI 8 pp) ∧ h.2 77 = some (cI 8 pa) ∧ h.2 78 = some (cI 8 pl) ∧ h.2 79 = some (.inl (2, 8, pm)) ∧ ∀ k, k < pc → pp k = op k ∧ pa k = oq k ∧ pl k = pt k ∧ pm k = ob k
theorem MPt.fr {h' : PH} (hf : ∀ z, z ≠ 83 → z ≠ 84 → h'.2 z = h.2 z) (hM : MPt h t pc op oq pt ob) : MPt h' t pc op oq pt ob := by
  obtain ⟨m1, m2, pp, pa, pl, pm, a1, a2, a3, a4, a5⟩ := hM
  exact ⟨(hf _ (by decide) (by decide)).trans m1, m2, pp, pa, pl, pm, (hf _ (by decide) (by decide)).trans a1, (hf _ (by decide) (by decide)).trans a2, (hf _ (by decide) (by decide)).trans a3, (hf _ (by decide) (by decide)).trans a4, a5⟩
end Mlist81
