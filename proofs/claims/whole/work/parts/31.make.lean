/-! Grammar: the commands -/
section Gram31
variable {x : Bool} {d : Nat} {h : PH} {g wc pc sz pn : Nat} {wl ws wp wq op oq pt ob nw pk cl cs : F_}
/-- the last part that a point may have -/
abbrev lstP (pt ob : F_) (p : Nat) : Int := if ob p = 0 then pt p - 1 else pt p
def stp (pc : Nat) (op oq pt ob : F_) (nw : F_) : Nat → Option F_
  | 0 => none
  | p + 1 => if nw p ≠ -1 ∧ nw p < lstP pt ob p then some (stl pc op oq (pc - (p + 1)) (p + 1) (fS nw p (nw p + 1))) else stp pc op oq pt ob nw p
set_option maxRecDepth 100000 in
set_option maxHeartbeats 4000000 in
theorem w_step {P : PO → PH → Prop} (h1 : h.2 g = some (gD g wc pc sz pn)) (h6 : h.2 (g + 6) = some (cI 8 op)) (h7 : h.2 (g + 7) = some (cI 8 oq)) (h8 : h.2 (g + 8) = some (cI 8 pt)) (h9 : h.2 (g + 9) = some (.inl (2, 8, ob))) (h10 : h.2 (g + 10) = some (cI 8 nw)) (hpc : pc ≤ 8) (hd : 3 ≤ d) (hpt : ∀ k : Nat, k < pc → 1 ≤ pt k ∧ pt k ≤ 400) (hnw : ∀ k : Nat, k < pc → -1 ≤ nw k) : ∀ (p : Nat), p ≤ pc → (stp pc op oq pt ob nw p = none → P (rI 0) h) → (∀ nw', stp pc op oq pt ob nw p = some nw' → P (rI 1) (hS h (g + 10) (cI 8 nw'))) →
    k_Wp x d 0 0 mX1_step P 0 0 7 [some (vR g), some (vI ((p : Int) - 1)), none] [] h := by
  intro p
  induction p with
  | zero =>
    intro hp c1 c2
    refine p_go [] 40 ?_
    simp only [st_0, st_1, st_2, st_3, st_4, st_5, st_6, st_7, st_8, st_9, st_10, st_11, st_12, st_13, st_14, st_15, st_16, st_17, st_18, st_19, st_20, st_21, st_22, st_23, st_24, st_25, st_26, st_27, st_28, st_29, st_30, st_31, st_32, st_33, st_34, st_34a, st_35, st_36, st_37, st_38, st_39, st_42, st_44, st_45, st_47, st_40, st_41, st_46, st_48, st_49, st_43, go_0, go_s, cut_0, cut_s, get_0, get_s, put_0, put_1, put_s, clr_0, clr_s, unl_i, unl_l, unl_r, unl_n, nth_0, nth_s, sf_0, sf_s, cnd_0, cnd_1, cnd_2, cnd_3, cnd_4, cnd_5, fit_0, fit_1, fit_2, en_0, en_i, en_l, en_r, kb_t, kb_f, kb_n, sw_0, sw_s, ↓reduceIte, Nat.reduceEqDiff, Nat.left_eq_add, Nat.add_eq_left, Nat.add_left_cancel_iff, Nat.reduceAdd, Int.reduceLT, Int.reduceLE, Int.reduceAdd, Int.reduceSub, Int.reduceNeg, Int.reduceMul, Int.reduceToNat, Int.reduceEq, reduceCtorEq, true_and, and_true, true_or, or_true, and_false, false_and, or_false, false_or, not_true_eq_false, not_false_eq_true, Nat.le_refl, and_self, Sum.inl.injEq, Sum.inr.injEq, Option.some.injEq, hS_2, k_isref, pd_0, pd_s, List.cons_append, List.nil_append, Option.toList_none, Option.toList_some, tX1_step, rX1_step, h1]
    exact k_brT (by omega) (c1 rfl)
  | succ p ih =>
    intro hp c1 c2
    have e0 : ((p + 1 : Nat) : Int) - 1 = (p : Int) := by omega
    have e1 : ¬ (p : Int) < 0 := by omega
    have e2 : (p : Int) + -1 = (p : Int) - 1 := by omega
    have hpp := hpt p (by omega)
    have hnp := hnw p (by omega)
    rw [e0]
    unfold stp at c1 c2
    have hgo : ∀ v : Int, v = lstP pt ob p → k_Wp x d 0 0 mX1_step P 0 0 38 [some (vR g), some (vI (p : Int)), some (vI v)] [] h := by
      intro v hv
      refine p_go [7] 40 ?_
      simp only [st_0, st_1, st_2, st_3, st_4, st_5, st_6, st_7, st_8, st_9, st_10, st_11, st_12, st_13, st_14, st_15, st_16, st_17, st_18, st_19, st_20, st_21, st_22, st_23, st_24, st_25, st_26, st_27, st_28, st_29, st_30, st_31, st_32, st_33, st_34, st_34a, st_35, st_36, st_37, st_38, st_39, st_42, st_44, st_45, st_47, st_40, st_41, st_46, st_48, st_49, st_43, go_0, go_s, cut_0, cut_s, get_0, get_s, put_0, put_1, put_s, clr_0, clr_s, unl_i, unl_l, unl_r, unl_n, nth_0, nth_s, sf_0, sf_s, cnd_0, cnd_1, cnd_2, cnd_3, cnd_4, cnd_5, fit_0, fit_1, fit_2, en_0, en_i, en_l, en_r, kb_t, kb_f, kb_n, sw_0, sw_s, ↓reduceIte, Nat.reduceEqDiff, Nat.left_eq_add, Nat.add_eq_left, Nat.add_left_cancel_iff, Nat.reduceAdd, Int.reduceLT, Int.reduceLE, Int.reduceAdd, Int.reduceSub, Int.reduceNeg, Int.reduceMul, Int.reduceToNat, Int.reduceEq, reduceCtorEq, true_and, and_true, true_or, or_true, and_false, false_and, or_false, false_or, not_true_eq_false, not_false_eq_true, Nat.le_refl, and_self, Sum.inl.injEq, Sum.inr.injEq, Option.some.injEq, hS_2, k_isref, pd_0, pd_s, List.cons_append, List.nil_append, Option.toList_none, Option.toList_some, tX1_step, rX1_step, h1, h10, Int.toNat_natCast]
      refine ⟨⟨by omega, by omega⟩, ?_⟩
      have hdn : ¬ (nw p ≠ -1 ∧ nw p < lstP pt ob p) → iR ((p : Int) + -1) ∧ k_Wp x d 0 0 mX1_step P 0 0 7 [some (vR g), some (vI ((p : Int) + -1)), some (vI v)] [] h := fun hn => by
        rw [if_neg hn] at c1 c2
        rw [e2]
        exact ⟨⟨by omega, by omega⟩, p_sub (by (repeat (first | exact le_nil | refine le_s ?_ | refine le_n ?_))) (ih (by omega) c1 c2)⟩
      refine k_brI (fun g1 => hdn (fun g2 => g2.1 g1)) (fun g1 => ⟨⟨by omega, by omega⟩, k_brI (fun g2 => hdn (fun g3 => by omega)) (fun g2 => ?_)⟩)
      have hy : nw p ≠ -1 ∧ nw p < lstP pt ob p := ⟨g1, by omega⟩
      have hl : lstP pt ob p ≤ 400 := by unfold lstP; split <;> omega
      rw [if_pos hy] at c1 c2
      rw [nat1]
      refine ⟨⟨by omega, by omega⟩, ⟨by omega, by omega⟩, ⟨by omega, by omega⟩, ⟨by omega, by omega⟩, ?_⟩
      have hx : ∀ a : Nat, a ≠ g + 10 → (hS h (g + 10) (cI 8 (fS nw p (nw p + 1)))).2 a = h.2 a := fun a e1 => hS_n e1
      have k1 := (hx g (by omega)).trans h1
      have k6 := (hx (g + 6) (by omega)).trans h6
      have k7 := (hx (g + 7) (by omega)).trans h7
      have k10 : (hS h (g + 10) (cI 8 (fS nw p (nw p + 1)))).2 (g + 10) = some (cI 8 (fS nw p (nw p + 1))) := hS_s _ _ _
      refine cV (d' := 2) [vI ((p + 1 : Nat) : Int)] [] l_1_81 k1 (e_settle k1 k6 k7 k10 hpc (by omega) (Nat.le_refl 2)) (by omega) (p_go [] 40 ?_)
      simp only [st_0, st_1, st_2, st_3, st_4, st_5, st_6, st_7, st_8, st_9, st_10, st_11, st_12, st_13, st_14, st_15, st_16, st_17, st_18, st_19, st_20, st_21, st_22, st_23, st_24, st_25, st_26, st_27, st_28, st_29, st_30, st_31, st_32, st_33, st_34, st_34a, st_35, st_36, st_37, st_38, st_39, st_42, st_44, st_45, st_47, st_40, st_41, st_46, st_48, st_49, st_43, go_0, go_s, cut_0, cut_s, get_0, get_s, put_0, put_1, put_s, clr_0, clr_s, unl_i, unl_l, unl_r, unl_n, nth_0, nth_s, sf_0, sf_s, cnd_0, cnd_1, cnd_2, cnd_3, cnd_4, cnd_5, fit_0, fit_1, fit_2, en_0, en_i, en_l, en_r, kb_t, kb_f, kb_n, sw_0, sw_s, ↓reduceIte, Nat.reduceEqDiff, Nat.left_eq_add, Nat.add_eq_left, Nat.add_left_cancel_iff, Nat.reduceAdd, Int.reduceLT, Int.reduceLE, Int.reduceAdd, Int.reduceSub, Int.reduceNeg, Int.reduceMul, Int.reduceToNat, Int.reduceEq, reduceCtorEq, true_and, and_true, true_or, or_true, and_false, false_and, or_false, false_or, not_true_eq_false, not_false_eq_true, Nat.le_refl, and_self, Sum.inl.injEq, Sum.inr.injEq, Option.some.injEq, hS_2, k_isref, pd_0, pd_s, List.cons_append, List.nil_append, Option.toList_none, Option.toList_some, tX1_step, rX1_step, hS_hS]
      exact c2 _ rfl
    by_cases ho : ob p = 0
    · refine p_go [38] 40 ?_
      simp only [st_0, st_1, st_2, st_3, st_4, st_5, st_6, st_7, st_8, st_9, st_10, st_11, st_12, st_13, st_14, st_15, st_16, st_17, st_18, st_19, st_20, st_21, st_22, st_23, st_24, st_25, st_26, st_27, st_28, st_29, st_30, st_31, st_32, st_33, st_34, st_34a, st_35, st_36, st_37, st_38, st_39, st_42, st_44, st_45, st_47, st_40, st_41, st_46, st_48, st_49, st_43, go_0, go_s, cut_0, cut_s, get_0, get_s, put_0, put_1, put_s, clr_0, clr_s, unl_i, unl_l, unl_r, unl_n, nth_0, nth_s, sf_0, sf_s, cnd_0, cnd_1, cnd_2, cnd_3, cnd_4, cnd_5, fit_0, fit_1, fit_2, en_0, en_i, en_l, en_r, kb_t, kb_f, kb_n, sw_0, sw_s, ↓reduceIte, Nat.reduceEqDiff, Nat.left_eq_add, Nat.add_eq_left, Nat.add_left_cancel_iff, Nat.reduceAdd, Int.reduceLT, Int.reduceLE, Int.reduceAdd, Int.reduceSub, Int.reduceNeg, Int.reduceMul, Int.reduceToNat, Int.reduceEq, reduceCtorEq, true_and, and_true, true_or, or_true, and_false, false_and, or_false, false_or, not_true_eq_false, not_false_eq_true, Nat.le_refl, and_self, Sum.inl.injEq, Sum.inr.injEq, Option.some.injEq, hS_2, k_isref, pd_0, pd_s, List.cons_append, List.nil_append, Option.toList_none, Option.toList_some, tX1_step, rX1_step, h1, h9, h8, e1, ho, Int.toNat_natCast]
      exact ⟨⟨by omega, by omega⟩, ⟨by omega, by omega⟩, ⟨by omega, by omega⟩, hgo _ (if_pos ho).symm⟩
    · refine p_go [38] 40 ?_
      simp only [st_0, st_1, st_2, st_3, st_4, st_5, st_6, st_7, st_8, st_9, st_10, st_11, st_12, st_13, st_14, st_15, st_16, st_17, st_18, st_19, st_20, st_21, st_22, st_23, st_24, st_25, st_26, st_27, st_28, st_29, st_30, st_31, st_32, st_33, st_34, st_34a, st_35, st_36, st_37, st_38, st_39, st_42, st_44, st_45, st_47, st_40, st_41, st_46, st_48, st_49, st_43, go_0, go_s, cut_0, cut_s, get_0, get_s, put_0, put_1, put_s, clr_0, clr_s, unl_i, unl_l, unl_r, unl_n, nth_0, nth_s, sf_0, sf_s, cnd_0, cnd_1, cnd_2, cnd_3, cnd_4, cnd_5, fit_0, fit_1, fit_2, en_0, en_i, en_l, en_r, kb_t, kb_f, kb_n, sw_0, sw_s, ↓reduceIte, Nat.reduceEqDiff, Nat.left_eq_add, Nat.add_eq_left, Nat.add_left_cancel_iff, Nat.reduceAdd, Int.reduceLT, Int.reduceLE, Int.reduceAdd, Int.reduceSub, Int.reduceNeg, Int.reduceMul, Int.reduceToNat, Int.reduceEq, reduceCtorEq, true_and, and_true, true_or, or_true, and_false, false_and, or_false, false_or, not_true_eq_false, not_false_eq_true, Nat.le_refl, and_self, Sum.inl.injEq, Sum.inr.injEq, Option.some.injEq, hS_2, k_isref, pd_0, pd_s, List.cons_append, List.nil_append, Option.toList_none, Option.toList_some, tX1_step, rX1_step, h1, h9, h8, e1, ho, Int.toNat_natCast]
      exact ⟨⟨by omega, by omega⟩, ⟨by omega, by omega⟩, hgo _ (if_neg ho).symm⟩
set_option maxRecDepth 100000 in
set_option maxHeartbeats 4000000 in
theorem e_step {P : PO → PH → Prop} (h1 : h.2 g = some (gD g wc pc sz pn)) (h6 : h.2 (g + 6) = some (cI 8 op)) (h7 : h.2 (g + 7) = some (cI 8 oq)) (h8 : h.2 (g + 8) = some (cI 8 pt)) (h9 : h.2 (g + 9) = some (.inl (2, 8, ob))) (h10 : h.2 (g + 10) = some (cI 8 nw)) (hpc : pc ≤ 8) (hd : 3 ≤ d) (hpt : ∀ k : Nat, k < pc → 1 ≤ pt k ∧ pt k ≤ 400) (hnw : ∀ k : Nat, k < pc → -1 ≤ nw k) (c1 : stp pc op oq pt ob nw pc = none → P (rI 0) h) (c2 : ∀ nw', stp pc op oq pt ob nw pc = some nw' → P (rI 1) (hS h (g + 10) (cI 8 nw'))) :
    k_Ev x d 0 0 mX1_step [vR g] h P := by
  refine k_enp 2 (Nat.le_of_ble_eq_true rfl) (p_go [7] 40 ?_)
  simp only [st_0, st_1, st_2, st_3, st_4, st_5, st_6, st_7, st_8, st_9, st_10, st_11, st_12, st_13, st_14, st_15, st_16, st_17, st_18, st_19, st_20, st_21, st_22, st_23, st_24, st_25, st_26, st_27, st_28, st_29, st_30, st_31, st_32, st_33, st_34, st_34a, st_35, st_36, st_37, st_38, st_39, st_42, st_44, st_45, st_47, st_40, st_41, st_46, st_48, st_49, st_43, go_0, go_s, cut_0, cut_s, get_0, get_s, put_0, put_1, put_s, clr_0, clr_s, unl_i, unl_l, unl_r, unl_n, nth_0, nth_s, sf_0, sf_s, cnd_0, cnd_1, cnd_2, cnd_3, cnd_4, cnd_5, fit_0, fit_1, fit_2, en_0, en_i, en_l, en_r, kb_t, kb_f, kb_n, sw_0, sw_s, ↓reduceIte, Nat.reduceEqDiff, Nat.left_eq_add, Nat.add_eq_left, Nat.add_left_cancel_iff, Nat.reduceAdd, Int.reduceLT, Int.reduceLE, Int.reduceAdd, Int.reduceSub, Int.reduceNeg, Int.reduceMul, Int.reduceToNat, Int.reduceEq, reduceCtorEq, true_and, and_true, true_or, or_true, and_false, false_and, or_false, false_or, not_true_eq_false, not_false_eq_true, Nat.le_refl, and_self, Sum.inl.injEq, Sum.inr.injEq, Option.some.injEq, hS_2, k_isref, pd_0, pd_s, List.cons_append, List.nil_append, Option.toList_none, Option.toList_some, tX1_step, rX1_step, h1]
  exact ⟨⟨by omega, by omega⟩, w_step h1 h6 h7 h8 h9 h10 hpc hd hpt hnw pc (Nat.le_refl _) c1 c2⟩
/-- one command's words joined: how many sounds, and the commands behind it -/
def jwd (pc : Nat) (nw wp wq wl ws : F_) (k : Nat) : Nat → Nat → Int → F_ → F_ → Int × F_ × F_
  | 0, _, many, cl, cs => (many, cl, cs)
  | j + 1, i, many, cl, cs => if cm pc nw (wp i) (wq i) = 0 then jwd pc nw wp wq wl ws k j (i + 1) many cl cs
    else jwd pc nw wp wq wl ws k j (i + 1) (many + wl i) (fS cl k (cl k + jn 40 (cl k) (wl i))) (va_cpy ws cs (i * 20) (k * 40 + (cl k).toNat) (jn 40 (cl k) (wl i)).toNat)
/-- the heap with other commands -/
def cmH (h : PH) (g : Nat) (cl cs : F_) : PH := hS (hS h (g + 12 + 2) (cI (120 * 40) cs)) (g + 12 + 1) (cI 120 cl)
theorem cmH_n {a : Nat} {h : PH} {g : Nat} {cl cs : F_} (h1 : a ≠ g + 12 + 2) (h2 : a ≠ g + 12 + 1) : (cmH h g cl cs).2 a = h.2 a := (hS_n h2).trans (hS_n h1)
theorem cmH_R {h : PH} {g : Nat} {cl cs cl' cs' : F_} (hR : Rw h (g + 12) 40 120 cl cs) : Rw (cmH h g cl' cs') (g + 12) 40 120 cl' cs' := (Rw.snd (n := 120) (w := 40) hR).len
set_option maxRecDepth 100000 in
set_option maxHeartbeats 4000000 in
theorem w_joinWords {P : PO → PH → Prop} {k : Nat} (hk : k < 120) (h1 : h.2 g = some (gD g wc pc sz pn)) (hR : Rw h (g + 1) 20 20 wl ws) (hW : RwW 20 20 wl) (h4 : h.2 (g + 4) = some (cI 20 wp)) (h5 : h.2 (g + 5) = some (cI 20 wq)) (h10 : h.2 (g + 10) = some (cI 8 nw)) (hC : Rw h (g + 12) 40 120 cl cs) (hwc : wc ≤ 20) (hpc : pc ≤ 8) (hd : 3 ≤ d) : ∀ (j i : Nat) (many : Int) (cl cs : F_), i + j = wc → RwW 40 120 cl →
    P rV (cmH h g (jwd pc nw wp wq wl ws k j i many cl cs).2.1 (jwd pc nw wp wq wl ws k j i many cl cs).2.2) →
    k_Wp x d 0 0 mX1_joinWords P 0 0 10 [some (vR g), some (vI k), some (vI i)] [] (cmH h g cl cs) := by
  intro j
  induction j with
  | zero =>
    intro i many cl cs hi hWc hP
    have e : (wc : Int) ≤ i := by omega
    have k1 := (cmH_n (h := h) (g := g) (cl := cl) (cs := cs) (show g ≠ g + 12 + 2 by omega) (by omega)).trans h1
    unfold jwd at hP
    refine p_go [] 40 ?_
    simp only [st_0, st_1, st_2, st_3, st_4, st_5, st_6, st_7, st_8, st_9, st_10, st_11, st_12, st_13, st_14, st_15, st_16, st_17, st_18, st_19, st_20, st_21, st_22, st_23, st_24, st_25, st_26, st_27, st_28, st_29, st_30, st_31, st_32, st_33, st_34, st_34a, st_35, st_36, st_37, st_38, st_39, st_42, st_44, st_45, st_47, st_40, st_41, st_46, st_48, st_49, st_43, go_0, go_s, cut_0, cut_s, get_0, get_s, put_0, put_1, put_s, clr_0, clr_s, unl_i, unl_l, unl_r, unl_n, nth_0, nth_s, sf_0, sf_s, cnd_0, cnd_1, cnd_2, cnd_3, cnd_4, cnd_5, fit_0, fit_1, fit_2, en_0, en_i, en_l, en_r, kb_t, kb_f, kb_n, sw_0, sw_s, ↓reduceIte, Nat.reduceEqDiff, Nat.left_eq_add, Nat.add_eq_left, Nat.add_left_cancel_iff, Nat.reduceAdd, Int.reduceLT, Int.reduceLE, Int.reduceAdd, Int.reduceSub, Int.reduceNeg, Int.reduceMul, Int.reduceToNat, Int.reduceEq, reduceCtorEq, true_and, and_true, true_or, or_true, and_false, false_and, or_false, false_or, not_true_eq_false, not_false_eq_true, Nat.le_refl, and_self, Sum.inl.injEq, Sum.inr.injEq, Option.some.injEq, hS_2, k_isref, pd_0, pd_s, List.cons_append, List.nil_append, Option.toList_none, Option.toList_some, tX1_joinWords, rX1_joinWords, k1, e]
    exact hP
  | succ j ih =>
    intro i many cl cs hi hWc hP
    have e : ¬ (wc : Int) ≤ i := by omega
    have hx : ∀ a : Nat, a ≠ g + 12 + 2 → a ≠ g + 12 + 1 → (cmH h g cl cs).2 a = h.2 a := fun a e1 e2 => cmH_n e1 e2
    have k1 := (hx g (by omega) (by omega)).trans h1
    have k4 := (hx (g + 4) (by omega) (by omega)).trans h4
    have k5 := (hx (g + 5) (by omega) (by omega)).trans h5
    have k10 := (hx (g + 10) (by omega) (by omega)).trans h10
    have kR : Rw (cmH h g cl cs) (g + 1) 20 20 wl ws := (hR.off (by omega) (by omega) (by omega)).off (by omega) (by omega) (by omega)
    have kC : Rw (cmH h g cl cs) (g + 12) 40 120 cl cs := cmH_R hC
    have hh : ∀ cl2 cs2 : F_, hS (hS (cmH h g cl cs) (g + 12 + 2) (cI (120 * 40) cs2)) (g + 12 + 1) (cI 120 cl2) = cmH h g cl2 cs2 := fun cl2 cs2 => hS_22 (by omega)
    unfold jwd at hP
    have hwl := hW.1 i (by omega)
    have hcl := hWc.1 k (by omega)
    have hj : 0 ≤ jn 40 (cl k) (wl i) ∧ jn 40 (cl k) (wl i) ≤ 40 - cl k := by unfold jn; split <;> omega
    generalize hg : cmH h g cl cs = hk2 at k1 k4 k5 k10 kR kC hh ⊢
    refine p_go [] 40 ?_
    simp only [st_0, st_1, st_2, st_3, st_4, st_5, st_6, st_7, st_8, st_9, st_10, st_11, st_12, st_13, st_14, st_15, st_16, st_17, st_18, st_19, st_20, st_21, st_22, st_23, st_24, st_25, st_26, st_27, st_28, st_29, st_30, st_31, st_32, st_33, st_34, st_34a, st_35, st_36, st_37, st_38, st_39, st_42, st_44, st_45, st_47, st_40, st_41, st_46, st_48, st_49, st_43, go_0, go_s, cut_0, cut_s, get_0, get_s, put_0, put_1, put_s, clr_0, clr_s, unl_i, unl_l, unl_r, unl_n, nth_0, nth_s, sf_0, sf_s, cnd_0, cnd_1, cnd_2, cnd_3, cnd_4, cnd_5, fit_0, fit_1, fit_2, en_0, en_i, en_l, en_r, kb_t, kb_f, kb_n, sw_0, sw_s, ↓reduceIte, Nat.reduceEqDiff, Nat.left_eq_add, Nat.add_eq_left, Nat.add_left_cancel_iff, Nat.reduceAdd, Int.reduceLT, Int.reduceLE, Int.reduceAdd, Int.reduceSub, Int.reduceNeg, Int.reduceMul, Int.reduceToNat, Int.reduceEq, reduceCtorEq, true_and, and_true, true_or, or_true, and_false, false_and, or_false, false_or, not_true_eq_false, not_false_eq_true, Nat.le_refl, and_self, Sum.inl.injEq, Sum.inr.injEq, Option.some.injEq, hS_2, k_isref, pd_0, pd_s, List.cons_append, List.nil_append, Option.toList_none, Option.toList_some, tX1_joinWords, rX1_joinWords, k1, k4, k5, e, Int.toNat_natCast]
    refine ⟨⟨by omega, by omega⟩, ⟨by omega, by omega⟩, ?_⟩
    refine cV (d' := 1) [vI (wp i), vI (wq i)] [] l_1_101 k1 (e_comesBy k1 k10 hpc (Nat.le_refl 1) _ _) (by omega) (p_go [10] 40 ?_)
    by_cases hcm : cm pc nw (wp i) (wq i) = 0
    · rw [if_pos hcm] at hP
      simp only [st_0, st_1, st_2, st_3, st_4, st_5, st_6, st_7, st_8, st_9, st_10, st_11, st_12, st_13, st_14, st_15, st_16, st_17, st_18, st_19, st_20, st_21, st_22, st_23, st_24, st_25, st_26, st_27, st_28, st_29, st_30, st_31, st_32, st_33, st_34, st_34a, st_35, st_36, st_37, st_38, st_39, st_42, st_44, st_45, st_47, st_40, st_41, st_46, st_48, st_49, st_43, go_0, go_s, cut_0, cut_s, get_0, get_s, put_0, put_1, put_s, clr_0, clr_s, unl_i, unl_l, unl_r, unl_n, nth_0, nth_s, sf_0, sf_s, cnd_0, cnd_1, cnd_2, cnd_3, cnd_4, cnd_5, fit_0, fit_1, fit_2, en_0, en_i, en_l, en_r, kb_t, kb_f, kb_n, sw_0, sw_s, ↓reduceIte, Nat.reduceEqDiff, Nat.left_eq_add, Nat.add_eq_left, Nat.add_left_cancel_iff, Nat.reduceAdd, Int.reduceLT, Int.reduceLE, Int.reduceAdd, Int.reduceSub, Int.reduceNeg, Int.reduceMul, Int.reduceToNat, Int.reduceEq, reduceCtorEq, true_and, and_true, true_or, or_true, and_false, false_and, or_false, false_or, not_true_eq_false, not_false_eq_true, Nat.le_refl, and_self, Sum.inl.injEq, Sum.inr.injEq, Option.some.injEq, hS_2, k_isref, pd_0, pd_s, List.cons_append, List.nil_append, Option.toList_none, Option.toList_some, tX1_joinWords, rX1_joinWords, hcm, nat1]
      have := ih (i + 1) many cl cs (by omega) hWc hP
      rw [hg] at this
      exact ⟨⟨by omega, by omega⟩, this⟩
    · rw [if_neg hcm] at hP
      simp only [st_0, st_1, st_2, st_3, st_4, st_5, st_6, st_7, st_8, st_9, st_10, st_11, st_12, st_13, st_14, st_15, st_16, st_17, st_18, st_19, st_20, st_21, st_22, st_23, st_24, st_25, st_26, st_27, st_28, st_29, st_30, st_31, st_32, st_33, st_34, st_34a, st_35, st_36, st_37, st_38, st_39, st_42, st_44, st_45, st_47, st_40, st_41, st_46, st_48, st_49, st_43, go_0, go_s, cut_0, cut_s, get_0, get_s, put_0, put_1, put_s, clr_0, clr_s, unl_i, unl_l, unl_r, unl_n, nth_0, nth_s, sf_0, sf_s, cnd_0, cnd_1, cnd_2, cnd_3, cnd_4, cnd_5, fit_0, fit_1, fit_2, en_0, en_i, en_l, en_r, kb_t, kb_f, kb_n, sw_0, sw_s, ↓reduceIte, Nat.reduceEqDiff, Nat.left_eq_add, Nat.add_eq_left, Nat.add_left_cancel_iff, Nat.reduceAdd, Int.reduceLT, Int.reduceLE, Int.reduceAdd, Int.reduceSub, Int.reduceNeg, Int.reduceMul, Int.reduceToNat, Int.reduceEq, reduceCtorEq, true_and, and_true, true_or, or_true, and_false, false_and, or_false, false_or, not_true_eq_false, not_false_eq_true, Nat.le_refl, and_self, Sum.inl.injEq, Sum.inr.injEq, Option.some.injEq, hS_2, k_isref, pd_0, pd_s, List.cons_append, List.nil_append, Option.toList_none, Option.toList_some, tX1_joinWords, rX1_joinWords, hcm, k1]
      refine cV (d' := 1) [vI k, vR (g + 1), vI i] [] l_1_111 kC.1 (e_join kC hWc hk kR hW (by omega) (Nat.le_refl 1) (by simp only [eq_iff_iff, iff_false]; omega)) (by omega) (p_go [10] 40 ?_)
      rw [hh]
      simp only [st_0, st_1, st_2, st_3, st_4, st_5, st_6, st_7, st_8, st_9, st_10, st_11, st_12, st_13, st_14, st_15, st_16, st_17, st_18, st_19, st_20, st_21, st_22, st_23, st_24, st_25, st_26, st_27, st_28, st_29, st_30, st_31, st_32, st_33, st_34, st_34a, st_35, st_36, st_37, st_38, st_39, st_42, st_44, st_45, st_47, st_40, st_41, st_46, st_48, st_49, st_43, go_0, go_s, cut_0, cut_s, get_0, get_s, put_0, put_1, put_s, clr_0, clr_s, unl_i, unl_l, unl_r, unl_n, nth_0, nth_s, sf_0, sf_s, cnd_0, cnd_1, cnd_2, cnd_3, cnd_4, cnd_5, fit_0, fit_1, fit_2, en_0, en_i, en_l, en_r, kb_t, kb_f, kb_n, sw_0, sw_s, ↓reduceIte, Nat.reduceEqDiff, Nat.left_eq_add, Nat.add_eq_left, Nat.add_left_cancel_iff, Nat.reduceAdd, Int.reduceLT, Int.reduceLE, Int.reduceAdd, Int.reduceSub, Int.reduceNeg, Int.reduceMul, Int.reduceToNat, Int.reduceEq, reduceCtorEq, true_and, and_true, true_or, or_true, and_false, false_and, or_false, false_or, not_true_eq_false, not_false_eq_true, Nat.le_refl, and_self, Sum.inl.injEq, Sum.inr.injEq, Option.some.injEq, hS_2, k_isref, pd_0, pd_s, List.cons_append, List.nil_append, Option.toList_none, Option.toList_some, tX1_joinWords, rX1_joinWords, nat1]
      refine ⟨⟨by omega, by omega⟩, ih (i + 1) (many + wl i) _ _ (by omega) (hWc.set (by omega) (by omega)) hP⟩
/-- how many sounds the words that come have -/
def sdn (pc : Nat) (nw wp wq wl : F_) : Nat → Nat → Int → Int
  | 0, _, many => many
  | j + 1, i, many => if cm pc nw (wp i) (wq i) = 0 then sdn pc nw wp wq wl j (i + 1) many else sdn pc nw wp wq wl j (i + 1) (many + wl i)
theorem jwd_1 {k : Nat} : ∀ (j i : Nat) (many : Int) (cl cs : F_), (jwd pc nw wp wq wl ws k j i many cl cs).1 = sdn pc nw wp wq wl j i many
  | 0, i, many, cl, cs => rfl
  | j + 1, i, many, cl, cs => by
    unfold jwd sdn
    split
    · exact jwd_1 j (i + 1) many cl cs
    · exact jwd_1 j (i + 1) _ _ _
set_option maxRecDepth 100000 in
set_option maxHeartbeats 4000000 in
theorem w_sounds {m : Int} (h1 : h.2 g = some (gD g wc pc sz pn)) (hR : Rw h (g + 1) 20 20 wl ws) (hW : RwW 20 20 wl) (h4 : h.2 (g + 4) = some (cI 20 wp)) (h5 : h.2 (g + 5) = some (cI 20 wq)) (h10 : h.2 (g + 10) = some (cI 8 nw)) (hwc : wc ≤ 20) (hpc : pc ≤ 8) (hd : 2 ≤ d) : ∀ (j i : Nat) (many : Int), i + j = wc → 0 ≤ many → many ≤ 20 * i → sdn pc nw wp wq wl j i many = m →
    k_Wp x d 0 0 mX1_soundsNow (fun o h' => o = rI m ∧ h' = h) 0 0 4 [some (vR g), some (vI many), some (vI i)] [] h := by
  intro j
  induction j with
  | zero =>
    intro i many hi m0 m1 hm
    have e : (wc : Int) ≤ i := by omega
    unfold sdn at hm
    refine p_go [] 40 ?_
    simp only [st_0, st_1, st_2, st_3, st_4, st_5, st_6, st_7, st_8, st_9, st_10, st_11, st_12, st_13, st_14, st_15, st_16, st_17, st_18, st_19, st_20, st_21, st_22, st_23, st_24, st_25, st_26, st_27, st_28, st_29, st_30, st_31, st_32, st_33, st_34, st_34a, st_35, st_36, st_37, st_38, st_39, st_42, st_44, st_45, st_47, st_40, st_41, st_46, st_48, st_49, st_43, go_0, go_s, cut_0, cut_s, get_0, get_s, put_0, put_1, put_s, clr_0, clr_s, unl_i, unl_l, unl_r, unl_n, nth_0, nth_s, sf_0, sf_s, cnd_0, cnd_1, cnd_2, cnd_3, cnd_4, cnd_5, fit_0, fit_1, fit_2, en_0, en_i, en_l, en_r, kb_t, kb_f, kb_n, sw_0, sw_s, ↓reduceIte, Nat.reduceEqDiff, Nat.left_eq_add, Nat.add_eq_left, Nat.add_left_cancel_iff, Nat.reduceAdd, Int.reduceLT, Int.reduceLE, Int.reduceAdd, Int.reduceSub, Int.reduceNeg, Int.reduceMul, Int.reduceToNat, Int.reduceEq, reduceCtorEq, true_and, and_true, true_or, or_true, and_false, false_and, or_false, false_or, not_true_eq_false, not_false_eq_true, Nat.le_refl, and_self, Sum.inl.injEq, Sum.inr.injEq, Option.some.injEq, hS_2, k_isref, pd_0, pd_s, List.cons_append, List.nil_append, Option.toList_none, Option.toList_some, tX1_soundsNow, rX1_soundsNow, h1, e]
    rw [hm]
  | succ j ih =>
    intro i many hi m0 m1 hm
    have e : ¬ (wc : Int) ≤ i := by omega
    unfold sdn at hm
    have hwl := hW.1 i (by omega)
    refine p_go [] 40 ?_
    simp only [st_0, st_1, st_2, st_3, st_4, st_5, st_6, st_7, st_8, st_9, st_10, st_11, st_12, st_13, st_14, st_15, st_16, st_17, st_18, st_19, st_20, st_21, st_22, st_23, st_24, st_25, st_26, st_27, st_28, st_29, st_30, st_31, st_32, st_33, st_34, st_34a, st_35, st_36, st_37, st_38, st_39, st_42, st_44, st_45, st_47, st_40, st_41, st_46, st_48, st_49, st_43, go_0, go_s, cut_0, cut_s, get_0, get_s, put_0, put_1, put_s, clr_0, clr_s, unl_i, unl_l, unl_r, unl_n, nth_0, nth_s, sf_0, sf_s, cnd_0, cnd_1, cnd_2, cnd_3, cnd_4, cnd_5, fit_0, fit_1, fit_2, en_0, en_i, en_l, en_r, kb_t, kb_f, kb_n, sw_0, sw_s, ↓reduceIte, Nat.reduceEqDiff, Nat.left_eq_add, Nat.add_eq_left, Nat.add_left_cancel_iff, Nat.reduceAdd, Int.reduceLT, Int.reduceLE, Int.reduceAdd, Int.reduceSub, Int.reduceNeg, Int.reduceMul, Int.reduceToNat, Int.reduceEq, reduceCtorEq, true_and, and_true, true_or, or_true, and_false, false_and, or_false, false_or, not_true_eq_false, not_false_eq_true, Nat.le_refl, and_self, Sum.inl.injEq, Sum.inr.injEq, Option.some.injEq, hS_2, k_isref, pd_0, pd_s, List.cons_append, List.nil_append, Option.toList_none, Option.toList_some, tX1_soundsNow, rX1_soundsNow, h1, h4, h5, e, Int.toNat_natCast]
    refine ⟨⟨by omega, by omega⟩, ⟨by omega, by omega⟩, ?_⟩
    refine cV (d' := 1) [vI (wp i), vI (wq i)] [] l_1_101 h1 (e_comesBy h1 h10 hpc (Nat.le_refl 1) _ _) (by omega) (p_go [4] 40 ?_)
    by_cases hcm : cm pc nw (wp i) (wq i) = 0
    · rw [if_pos hcm] at hm
      simp only [st_0, st_1, st_2, st_3, st_4, st_5, st_6, st_7, st_8, st_9, st_10, st_11, st_12, st_13, st_14, st_15, st_16, st_17, st_18, st_19, st_20, st_21, st_22, st_23, st_24, st_25, st_26, st_27, st_28, st_29, st_30, st_31, st_32, st_33, st_34, st_34a, st_35, st_36, st_37, st_38, st_39, st_42, st_44, st_45, st_47, st_40, st_41, st_46, st_48, st_49, st_43, go_0, go_s, cut_0, cut_s, get_0, get_s, put_0, put_1, put_s, clr_0, clr_s, unl_i, unl_l, unl_r, unl_n, nth_0, nth_s, sf_0, sf_s, cnd_0, cnd_1, cnd_2, cnd_3, cnd_4, cnd_5, fit_0, fit_1, fit_2, en_0, en_i, en_l, en_r, kb_t, kb_f, kb_n, sw_0, sw_s, ↓reduceIte, Nat.reduceEqDiff, Nat.left_eq_add, Nat.add_eq_left, Nat.add_left_cancel_iff, Nat.reduceAdd, Int.reduceLT, Int.reduceLE, Int.reduceAdd, Int.reduceSub, Int.reduceNeg, Int.reduceMul, Int.reduceToNat, Int.reduceEq, reduceCtorEq, true_and, and_true, true_or, or_true, and_false, false_and, or_false, false_or, not_true_eq_false, not_false_eq_true, Nat.le_refl, and_self, Sum.inl.injEq, Sum.inr.injEq, Option.some.injEq, hS_2, k_isref, pd_0, pd_s, List.cons_append, List.nil_append, Option.toList_none, Option.toList_some, tX1_soundsNow, rX1_soundsNow, hcm, nat1]
      exact ⟨⟨by omega, by omega⟩, ih (i + 1) many (by omega) m0 (by omega) hm⟩
    · rw [if_neg hcm] at hm
      simp only [st_0, st_1, st_2, st_3, st_4, st_5, st_6, st_7, st_8, st_9, st_10, st_11, st_12, st_13, st_14, st_15, st_16, st_17, st_18, st_19, st_20, st_21, st_22, st_23, st_24, st_25, st_26, st_27, st_28, st_29, st_30, st_31, st_32, st_33, st_34, st_34a, st_35, st_36, st_37, st_38, st_39, st_42, st_44, st_45, st_47, st_40, st_41, st_46, st_48, st_49, st_43, go_0, go_s, cut_0, cut_s, get_0, get_s, put_0, put_1, put_s, clr_0, clr_s, unl_i, unl_l, unl_r, unl_n, nth_0, nth_s, sf_0, sf_s, cnd_0, cnd_1, cnd_2, cnd_3, cnd_4, cnd_5, fit_0, fit_1, fit_2, en_0, en_i, en_l, en_r, kb_t, kb_f, kb_n, sw_0, sw_s, ↓reduceIte, Nat.reduceEqDiff, Nat.left_eq_add, Nat.add_eq_left, Nat.add_left_cancel_iff, Nat.reduceAdd, Int.reduceLT, Int.reduceLE, Int.reduceAdd, Int.reduceSub, Int.reduceNeg, Int.reduceMul, Int.reduceToNat, Int.reduceEq, reduceCtorEq, true_and, and_true, true_or, or_true, and_false, false_and, or_false, false_or, not_true_eq_false, not_false_eq_true, Nat.le_refl, and_self, Sum.inl.injEq, Sum.inr.injEq, Option.some.injEq, hS_2, k_isref, pd_0, pd_s, List.cons_append, List.nil_append, Option.toList_none, Option.toList_some, tX1_soundsNow, rX1_soundsNow, hcm, h1]
      refine cV (d' := 0) [vI i] [vI many] l_1_105 hR.1 (e_length hR (by omega)) (by omega) (p_go [4] 40 ?_)
      simp only [st_0, st_1, st_2, st_3, st_4, st_5, st_6, st_7, st_8, st_9, st_10, st_11, st_12, st_13, st_14, st_15, st_16, st_17, st_18, st_19, st_20, st_21, st_22, st_23, st_24, st_25, st_26, st_27, st_28, st_29, st_30, st_31, st_32, st_33, st_34, st_34a, st_35, st_36, st_37, st_38, st_39, st_42, st_44, st_45, st_47, st_40, st_41, st_46, st_48, st_49, st_43, go_0, go_s, cut_0, cut_s, get_0, get_s, put_0, put_1, put_s, clr_0, clr_s, unl_i, unl_l, unl_r, unl_n, nth_0, nth_s, sf_0, sf_s, cnd_0, cnd_1, cnd_2, cnd_3, cnd_4, cnd_5, fit_0, fit_1, fit_2, en_0, en_i, en_l, en_r, kb_t, kb_f, kb_n, sw_0, sw_s, ↓reduceIte, Nat.reduceEqDiff, Nat.left_eq_add, Nat.add_eq_left, Nat.add_left_cancel_iff, Nat.reduceAdd, Int.reduceLT, Int.reduceLE, Int.reduceAdd, Int.reduceSub, Int.reduceNeg, Int.reduceMul, Int.reduceToNat, Int.reduceEq, reduceCtorEq, true_and, and_true, true_or, or_true, and_false, false_and, or_false, false_or, not_true_eq_false, not_false_eq_true, Nat.le_refl, and_self, Sum.inl.injEq, Sum.inr.injEq, Option.some.injEq, hS_2, k_isref, pd_0, pd_s, List.cons_append, List.nil_append, Option.toList_none, Option.toList_some, tX1_soundsNow, rX1_soundsNow, nat1]
      exact ⟨⟨by omega, by omega⟩, ⟨by omega, by omega⟩, ih (i + 1) (many + wl i) (by omega) (by omega) (by omega) hm⟩
set_option maxRecDepth 100000 in
set_option maxHeartbeats 4000000 in
theorem e_sounds (h1 : h.2 g = some (gD g wc pc sz pn)) (hR : Rw h (g + 1) 20 20 wl ws) (hW : RwW 20 20 wl) (h4 : h.2 (g + 4) = some (cI 20 wp)) (h5 : h.2 (g + 5) = some (cI 20 wq)) (h10 : h.2 (g + 10) = some (cI 8 nw)) (hwc : wc ≤ 20) (hpc : pc ≤ 8) (hd : 2 ≤ d) : k_Ev x d 0 0 mX1_soundsNow [vR g] h (fun o h' => o = rI (sdn pc nw wp wq wl wc 0 0) ∧ h' = h) := by
  refine k_enp 2 (Nat.le_of_ble_eq_true rfl) (p_go [4] 40 ?_)
  simp only [st_0, st_1, st_2, st_3, st_4, st_5, st_6, st_7, st_8, st_9, st_10, st_11, st_12, st_13, st_14, st_15, st_16, st_17, st_18, st_19, st_20, st_21, st_22, st_23, st_24, st_25, st_26, st_27, st_28, st_29, st_30, st_31, st_32, st_33, st_34, st_34a, st_35, st_36, st_37, st_38, st_39, st_42, st_44, st_45, st_47, st_40, st_41, st_46, st_48, st_49, st_43, go_0, go_s, cut_0, cut_s, get_0, get_s, put_0, put_1, put_s, clr_0, clr_s, unl_i, unl_l, unl_r, unl_n, nth_0, nth_s, sf_0, sf_s, cnd_0, cnd_1, cnd_2, cnd_3, cnd_4, cnd_5, fit_0, fit_1, fit_2, en_0, en_i, en_l, en_r, kb_t, kb_f, kb_n, sw_0, sw_s, ↓reduceIte, Nat.reduceEqDiff, Nat.left_eq_add, Nat.add_eq_left, Nat.add_left_cancel_iff, Nat.reduceAdd, Int.reduceLT, Int.reduceLE, Int.reduceAdd, Int.reduceSub, Int.reduceNeg, Int.reduceMul, Int.reduceToNat, Int.reduceEq, reduceCtorEq, true_and, and_true, true_or, or_true, and_false, false_and, or_false, false_or, not_true_eq_false, not_false_eq_true, Nat.le_refl, and_self, Sum.inl.injEq, Sum.inr.injEq, Option.some.injEq, hS_2, k_isref, pd_0, pd_s, List.cons_append, List.nil_append, Option.toList_none, Option.toList_some, tX1_soundsNow, rX1_soundsNow]
  exact w_sounds h1 hR hW h4 h5 h10 hwc hpc hd wc 0 0 (by omega) (by omega) (by omega) rfl
theorem jwd_W {k : Nat} (hW : RwW 20 20 wl) : ∀ (j i : Nat) (many : Int) (cl cs : F_), i + j ≤ 20 → k < 120 → RwW 40 120 cl → RwW 40 120 (jwd pc nw wp wq wl ws k j i many cl cs).2.1
  | 0, i, many, cl, cs, _, _, h => h
  | j + 1, i, many, cl, cs, hi, hk, h => by
    unfold jwd
    have hwl := hW.1 i (by omega)
    have hcl := h.1 k hk
    have hj : 0 ≤ jn 40 (cl k) (wl i) ∧ jn 40 (cl k) (wl i) ≤ 40 - cl k := by unfold jn; split <;> omega
    split
    · exact jwd_W hW j (i + 1) many cl cs (by omega) hk h
    · exact jwd_W hW j (i + 1) _ _ _ (by omega) hk (h.set (by omega) (by omega))
set_option maxRecDepth 100000 in
set_option maxHeartbeats 4000000 in
theorem e_joinWords {k : Nat} (hk : k < 120) (h1 : h.2 g = some (gD g wc pc sz pn)) (hR : Rw h (g + 1) 20 20 wl ws) (hW : RwW 20 20 wl) (h4 : h.2 (g + 4) = some (cI 20 wp)) (h5 : h.2 (g + 5) = some (cI 20 wq)) (h10 : h.2 (g + 10) = some (cI 8 nw)) (hC : Rw h (g + 12) 40 120 cl cs) (hWc : RwW 40 120 cl) (hwc : wc ≤ 20) (hpc : pc ≤ 8) (hd : 3 ≤ d) :
    k_Ev x d 0 0 mX1_joinWords [vR g, vI k] h (fun o h' => o = rV ∧ h' = cmH h g (jwd pc nw wp wq wl ws k wc 0 0 (fS cl k 0) cs).2.1 (jwd pc nw wp wq wl ws k wc 0 0 (fS cl k 0) cs).2.2) := by
  refine k_enp 1 (Nat.le_of_ble_eq_true rfl) (p_go [] 40 ?_)
  simp only [st_0, st_1, st_2, st_3, st_4, st_5, st_6, st_7, st_8, st_9, st_10, st_11, st_12, st_13, st_14, st_15, st_16, st_17, st_18, st_19, st_20, st_21, st_22, st_23, st_24, st_25, st_26, st_27, st_28, st_29, st_30, st_31, st_32, st_33, st_34, st_34a, st_35, st_36, st_37, st_38, st_39, st_42, st_44, st_45, st_47, st_40, st_41, st_46, st_48, st_49, st_43, go_0, go_s, cut_0, cut_s, get_0, get_s, put_0, put_1, put_s, clr_0, clr_s, unl_i, unl_l, unl_r, unl_n, nth_0, nth_s, sf_0, sf_s, cnd_0, cnd_1, cnd_2, cnd_3, cnd_4, cnd_5, fit_0, fit_1, fit_2, en_0, en_i, en_l, en_r, kb_t, kb_f, kb_n, sw_0, sw_s, ↓reduceIte, Nat.reduceEqDiff, Nat.left_eq_add, Nat.add_eq_left, Nat.add_left_cancel_iff, Nat.reduceAdd, Int.reduceLT, Int.reduceLE, Int.reduceAdd, Int.reduceSub, Int.reduceNeg, Int.reduceMul, Int.reduceToNat, Int.reduceEq, reduceCtorEq, true_and, and_true, true_or, or_true, and_false, false_and, or_false, false_or, not_true_eq_false, not_false_eq_true, Nat.le_refl, and_self, Sum.inl.injEq, Sum.inr.injEq, Option.some.injEq, hS_2, k_isref, pd_0, pd_s, List.cons_append, List.nil_append, Option.toList_none, Option.toList_some, tX1_joinWords, rX1_joinWords, h1]
  refine cV (d' := 0) [vI k] [] l_1_108 hC.1 (e_clear hC hk) (by omega) (p_go [10] 40 ?_)
  simp only [st_0, st_1, st_2, st_3, st_4, st_5, st_6, st_7, st_8, st_9, st_10, st_11, st_12, st_13, st_14, st_15, st_16, st_17, st_18, st_19, st_20, st_21, st_22, st_23, st_24, st_25, st_26, st_27, st_28, st_29, st_30, st_31, st_32, st_33, st_34, st_34a, st_35, st_36, st_37, st_38, st_39, st_42, st_44, st_45, st_47, st_40, st_41, st_46, st_48, st_49, st_43, go_0, go_s, cut_0, cut_s, get_0, get_s, put_0, put_1, put_s, clr_0, clr_s, unl_i, unl_l, unl_r, unl_n, nth_0, nth_s, sf_0, sf_s, cnd_0, cnd_1, cnd_2, cnd_3, cnd_4, cnd_5, fit_0, fit_1, fit_2, en_0, en_i, en_l, en_r, kb_t, kb_f, kb_n, sw_0, sw_s, ↓reduceIte, Nat.reduceEqDiff, Nat.left_eq_add, Nat.add_eq_left, Nat.add_left_cancel_iff, Nat.reduceAdd, Int.reduceLT, Int.reduceLE, Int.reduceAdd, Int.reduceSub, Int.reduceNeg, Int.reduceMul, Int.reduceToNat, Int.reduceEq, reduceCtorEq, true_and, and_true, true_or, or_true, and_false, false_and, or_false, false_or, not_true_eq_false, not_false_eq_true, Nat.le_refl, and_self, Sum.inl.injEq, Sum.inr.injEq, Option.some.injEq, hS_2, k_isref, pd_0, pd_s, List.cons_append, List.nil_append, Option.toList_none, Option.toList_some, tX1_joinWords, rX1_joinWords]
  have e : hS h (g + 12 + 1) (cI 120 (fS cl k 0)) = cmH h g (fS cl k 0) cs := by
    unfold cmH
    rw [hS_id (h := h) (a := g + 12 + 2) (c := cI (120 * 40) cs) hC.2.2]
  rw [e]
  exact w_joinWords hk h1 hR hW h4 h5 h10 hC hwc hpc hd wc 0 0 (fS cl k 0) cs (by omega) (hWc.set (by omega) (by omega)) ⟨rfl, rfl⟩
theorem stl_b : ∀ (j p : Nat) (nw : F_), p + j = pc → (∀ k : Nat, k < pc → -1 ≤ nw k) → ∀ k : Nat, k < pc → -1 ≤ stl pc op oq j p nw k
  | 0, p, nw, _, h => h
  | j + 1, p, nw, hp, h => by
    unfold stl
    refine stl_b j (p + 1) _ (by omega) (fun k hk => ?_)
    unfold fS
    split
    · split <;> omega
    · exact h k hk
theorem stp_b (hnw : ∀ k : Nat, k < pc → -1 ≤ nw k) : ∀ (p : Nat), p ≤ pc → ∀ nw', stp pc op oq pt ob nw p = some nw' → ∀ k : Nat, k < pc → -1 ≤ nw' k
  | 0, _, nw', h => by cases h
  | p + 1, hp, nw', h => by
    unfold stp at h
    split at h
    · rename_i hc
      cases h
      refine stl_b _ _ _ (by omega) (fun k hk => ?_)
      have := hnw p (by omega)
      unfold fS
      split
      · omega
      · exact hnw k hk
    · exact stp_b hnw p (by omega) nw' h
/-- the commands made: the answer, how many, and picks and commands behind it -/
def mkc (wc pc : Nat) (wl ws wp wq op oq pt ob : F_) : Nat → Nat → Int → F_ → F_ → F_ → F_ → (Int × Nat) × F_ × F_ × F_ × F_
  | 0, made, _, nw, pk, cl, cs => ((5, made), nw, pk, cl, cs)
  | j + 1, made, tl, nw, pk, cl, cs =>
    match stp pc op oq pt ob nw pc with
    | none => ((if tl = 0 ∧ (jwd pc nw wp wq wl ws made wc 0 0 (fS cl made 0) cs).1 ≤ 40 then 0 else 6, made + 1), nw, va_cpy nw pk 0 (made * 8) 8, (jwd pc nw wp wq wl ws made wc 0 0 (fS cl made 0) cs).2.1, (jwd pc nw wp wq wl ws made wc 0 0 (fS cl made 0) cs).2.2)
    | some nw' => mkc wc pc wl ws wp wq op oq pt ob j (made + 1) (if (jwd pc nw wp wq wl ws made wc 0 0 (fS cl made 0) cs).1 ≤ 40 then tl else 1) nw' (va_cpy nw pk 0 (made * 8) 8) (jwd pc nw wp wq wl ws made wc 0 0 (fS cl made 0) cs).2.1 (jwd pc nw wp wq wl ws made wc 0 0 (fS cl made 0) cs).2.2
end Gram31
