/-! Grammar.makeCommands -/
section Gram32
variable {x : Bool} {d : Nat} {h : PH} {g wc pc sz : Nat} {wl ws wp wq op oq pt ob : F_}
set_option maxRecDepth 100000 in
set_option maxHeartbeats 4000000 in
theorem w_mkcs {P : PO → PH → Prop} {cl0 cs0 : F_} (h1 : h.2 g = some (gO g wc pc sz)) (hR : Rw h (g + 1) 20 20 wl ws) (hW : RwW 20 20 wl) (h4 : h.2 (g + 4) = some (cI 20 wp)) (h5 : h.2 (g + 5) = some (cI 20 wq)) (h6 : h.2 (g + 6) = some (cI 8 op)) (h7 : h.2 (g + 7) = some (cI 8 oq)) (h8 : h.2 (g + 8) = some (cI 8 pt)) (h9 : h.2 (g + 9) = some (.inl (2, 8, ob))) (hC : Rw h (g + 12) 40 120 cl0 cs0) (hwc : wc ≤ 20) (hpc : pc ≤ 8) (hd : 4 ≤ d) (hpt : ∀ k : Nat, k < pc → 1 ≤ pt k ∧ pt k ≤ 400) : ∀ (j made : Nat) (tl : Int) (nw pk cl cs : F_), made + j = 120 → (tl = 0 ∨ tl = 1) → RwW 40 120 cl → (∀ k : Nat, k < pc → -1 ≤ nw k) →
    (∀ r m nw' pk' cl' cs', mkc wc pc wl ws wp wq op oq pt ob j made tl nw pk cl cs = ((r, m), nw', pk', cl', cs') → P (rI r) (hS (mkH h g nw' pk' cl' cs') g (gO g wc pc (if r = 5 then sz else m)))) →
    k_Wp x d 0 0 mX1_makeCommands P 0 0 11 [some (vR g), some (vI tl), some (vI 1), some (vI made)] [] (mkH h g nw pk cl cs) := by
  intro j
  induction j with
  | zero =>
    intro made tl nw pk cl cs hm htl hWc hnw hP
    have e : (120 : Int) ≤ (made : Int) := by omega
    have hp := hP _ _ _ _ _ _ rfl
    have k1 : (mkH h g nw pk cl cs).2 g = some (gO g wc pc sz) := (mkH_n (by omega) (by omega) (by omega) (by omega)).trans h1
    rw [if_pos rfl, hS_id k1] at hp
    refine p_go [] 40 ?_
    simp only [st_0, st_1, st_2, st_3, st_4, st_5, st_6, st_7, st_8, st_9, st_10, st_11, st_12, st_13, st_14, st_15, st_16, st_17, st_18, st_19, st_20, st_21, st_22, st_23, st_24, st_25, st_26, st_27, st_28, st_29, st_30, st_31, st_32, st_33, st_34, st_34a, st_35, st_36, st_37, st_38, st_39, st_42, st_44, st_45, st_47, st_40, st_41, st_46, st_48, st_49, st_43, go_0, go_s, cut_0, cut_s, get_0, get_s, put_0, put_1, put_s, clr_0, clr_s, unl_i, unl_l, unl_r, unl_n, nth_0, nth_s, sf_0, sf_s, cnd_0, cnd_1, cnd_2, cnd_3, cnd_4, cnd_5, fit_0, fit_1, fit_2, en_0, en_i, en_l, en_r, kb_t, kb_f, kb_n, sw_0, sw_s, ↓reduceIte, Nat.reduceEqDiff, Nat.left_eq_add, Nat.add_eq_left, Nat.add_left_cancel_iff, Nat.reduceAdd, Int.reduceLT, Int.reduceLE, Int.reduceAdd, Int.reduceSub, Int.reduceNeg, Int.reduceMul, Int.reduceToNat, Int.reduceEq, reduceCtorEq, true_and, and_true, true_or, or_true, and_false, false_and, or_false, false_or, not_true_eq_false, not_false_eq_true, Nat.le_refl, and_self, Sum.inl.injEq, Sum.inr.injEq, Option.some.injEq, hS_2, k_isref, pd_0, pd_s, List.cons_append, List.nil_append, Option.toList_none, Option.toList_some, tX1_makeCommands, rX1_makeCommands, e]
    exact hp
  | succ j ih =>
    intro made tl nw pk cl cs hm htl hWc hnw hP
    have e : ¬ (120 : Int) ≤ (made : Int) := by omega
    have e8 : (made : Int) * 8 = ((made * 8 : Nat) : Int) := by omega
    unfold mkc at hP
    have hx : ∀ (nw pk cl cs : F_) (a : Nat), a ≠ g + 10 → a ≠ g + 11 → a ≠ g + 12 + 2 → a ≠ g + 12 + 1 → (mkH h g nw pk cl cs).2 a = h.2 a := fun nw pk cl cs a e1 e2 e3 e4 => mkH_n e1 e2 e3 e4
    have k1 : ∀ (nw pk cl cs : F_), (mkH h g nw pk cl cs).2 g = some (gO g wc pc sz) := fun nw pk cl cs => (hx nw pk cl cs g (by omega) (by omega) (by omega) (by omega)).trans h1
    have k4 : ∀ (nw pk cl cs : F_), (mkH h g nw pk cl cs).2 (g + 4) = some (cI 20 wp) := fun nw pk cl cs => (hx nw pk cl cs (g + 4) (by omega) (by omega) (by omega) (by omega)).trans h4
    have k5 : ∀ (nw pk cl cs : F_), (mkH h g nw pk cl cs).2 (g + 5) = some (cI 20 wq) := fun nw pk cl cs => (hx nw pk cl cs (g + 5) (by omega) (by omega) (by omega) (by omega)).trans h5
    have k6 : ∀ (nw pk cl cs : F_), (mkH h g nw pk cl cs).2 (g + 6) = some (cI 8 op) := fun nw pk cl cs => (hx nw pk cl cs (g + 6) (by omega) (by omega) (by omega) (by omega)).trans h6
    have k7 : ∀ (nw pk cl cs : F_), (mkH h g nw pk cl cs).2 (g + 7) = some (cI 8 oq) := fun nw pk cl cs => (hx nw pk cl cs (g + 7) (by omega) (by omega) (by omega) (by omega)).trans h7
    have k8 : ∀ (nw pk cl cs : F_), (mkH h g nw pk cl cs).2 (g + 8) = some (cI 8 pt) := fun nw pk cl cs => (hx nw pk cl cs (g + 8) (by omega) (by omega) (by omega) (by omega)).trans h8
    have k9 : ∀ (nw pk cl cs : F_), (mkH h g nw pk cl cs).2 (g + 9) = some (.inl (2, 8, ob)) := fun nw pk cl cs => (hx nw pk cl cs (g + 9) (by omega) (by omega) (by omega) (by omega)).trans h9
    have kR : ∀ (nw pk cl cs : F_), Rw (mkH h g nw pk cl cs) (g + 1) 20 20 wl ws := fun nw pk cl cs => mkH_R hR (by omega)
    have kC : ∀ (nw pk cl cs : F_), Rw (mkH h g nw pk cl cs) (g + 12) 40 120 cl cs := fun nw pk cl cs => mkH_C hC
    refine p_go [] 40 ?_
    simp only [st_0, st_1, st_2, st_3, st_4, st_5, st_6, st_7, st_8, st_9, st_10, st_11, st_12, st_13, st_14, st_15, st_16, st_17, st_18, st_19, st_20, st_21, st_22, st_23, st_24, st_25, st_26, st_27, st_28, st_29, st_30, st_31, st_32, st_33, st_34, st_34a, st_35, st_36, st_37, st_38, st_39, st_42, st_44, st_45, st_47, st_40, st_41, st_46, st_48, st_49, st_43, go_0, go_s, cut_0, cut_s, get_0, get_s, put_0, put_1, put_s, clr_0, clr_s, unl_i, unl_l, unl_r, unl_n, nth_0, nth_s, sf_0, sf_s, cnd_0, cnd_1, cnd_2, cnd_3, cnd_4, cnd_5, fit_0, fit_1, fit_2, en_0, en_i, en_l, en_r, kb_t, kb_f, kb_n, sw_0, sw_s, ↓reduceIte, Nat.reduceEqDiff, Nat.left_eq_add, Nat.add_eq_left, Nat.add_left_cancel_iff, Nat.reduceAdd, Int.reduceLT, Int.reduceLE, Int.reduceAdd, Int.reduceSub, Int.reduceNeg, Int.reduceMul, Int.reduceToNat, Int.reduceEq, reduceCtorEq, true_and, and_true, true_or, or_true, and_false, false_and, or_false, false_or, not_true_eq_false, not_false_eq_true, Nat.le_refl, and_self, Sum.inl.injEq, Sum.inr.injEq, Option.some.injEq, hS_2, k_isref, pd_0, pd_s, List.cons_append, List.nil_append, Option.toList_none, Option.toList_some, tX1_makeCommands, rX1_makeCommands, k1 nw pk cl cs, e, e8]
    refine ⟨⟨by omega, by omega⟩, ?_⟩
    refine p_copy (by rfl) mkH_10 mkH_11 ?_ ?_ ?_ ?_ ?_ (by omega) ?_ (p_go [] 40 ?_)
    · omega
    · omega
    · omega
    · omega
    · omega
    · decide
    have ec : va_cpy nw pk (0 : Int).toNat ((made * 8 : Nat) : Int).toNat (8 : Int).toNat = va_cpy nw pk 0 (made * 8) 8 := by rw [Int.toNat_natCast]; rfl
    rw [ec, show hS (mkH h g nw pk cl cs) (g + 11) (Sum.inl (0, 960, va_cpy nw pk 0 (made * 8) 8)) = mkH h g nw (va_cpy nw pk 0 (made * 8) 8) cl cs from mkH_pk]
    simp only [st_0, st_1, st_2, st_3, st_4, st_5, st_6, st_7, st_8, st_9, st_10, st_11, st_12, st_13, st_14, st_15, st_16, st_17, st_18, st_19, st_20, st_21, st_22, st_23, st_24, st_25, st_26, st_27, st_28, st_29, st_30, st_31, st_32, st_33, st_34, st_34a, st_35, st_36, st_37, st_38, st_39, st_42, st_44, st_45, st_47, st_40, st_41, st_46, st_48, st_49, st_43, go_0, go_s, cut_0, cut_s, get_0, get_s, put_0, put_1, put_s, clr_0, clr_s, unl_i, unl_l, unl_r, unl_n, nth_0, nth_s, sf_0, sf_s, cnd_0, cnd_1, cnd_2, cnd_3, cnd_4, cnd_5, fit_0, fit_1, fit_2, en_0, en_i, en_l, en_r, kb_t, kb_f, kb_n, sw_0, sw_s, ↓reduceIte, Nat.reduceEqDiff, Nat.left_eq_add, Nat.add_eq_left, Nat.add_left_cancel_iff, Nat.reduceAdd, Int.reduceLT, Int.reduceLE, Int.reduceAdd, Int.reduceSub, Int.reduceNeg, Int.reduceMul, Int.reduceToNat, Int.reduceEq, reduceCtorEq, true_and, and_true, true_or, or_true, and_false, false_and, or_false, false_or, not_true_eq_false, not_false_eq_true, Nat.le_refl, and_self, Sum.inl.injEq, Sum.inr.injEq, Option.some.injEq, hS_2, k_isref, pd_0, pd_s, List.cons_append, List.nil_append, Option.toList_none, Option.toList_some, tX1_makeCommands, rX1_makeCommands]
    generalize va_cpy nw pk 0 (made * 8) 8 = pk2 at hP ⊢
    have hJW := jwd_W (pc := pc) (nw := nw) (wp := wp) (wq := wq) (ws := ws) (k := made) hW wc 0 0 (fS cl made 0) cs (by omega) (by omega) (hWc.set (by omega) (by omega))
    generalize hjw : jwd pc nw wp wq wl ws made wc 0 0 (fS cl made 0) cs = jr at hP hJW
    obtain ⟨jm, jl, js⟩ := jr
    refine cVQ (d' := 3) (P' := fun o h' => o = rI (if jm ≤ 40 then 1 else 0) ∧ h' = mkH h g nw pk2 jl js) [vI made] [] l_1_81 (k1 nw pk2 cl cs) (e_joinWords (by omega) (k1 nw pk2 cl cs) (kR nw pk2 cl cs) hW (k4 nw pk2 cl cs) (k5 nw pk2 cl cs) mkH_10 (kC nw pk2 cl cs) hWc hwc hpc (Nat.le_refl 3) (by rw [hjw, mkH_cm]; exact ⟨rfl, rfl⟩)) (by omega) ?_ (fun E h' q => by cases q.1)
    intro r1 hr1 ⟨q1, q2⟩
    cases q1
    subst q2
    refine p_go [49] 40 ?_
    have hgo : ∀ tl2 : Int, tl2 = (if jm ≤ 40 then tl else 1) → k_Wp x d 0 0 mX1_makeCommands P 0 0 49 [some (vR g), some (vI tl2), some (vI 1), some (vI made)] [] (mkH h g nw pk2 jl js) := by
      intro tl2 htl2
      have ht2 : tl2 = 0 ∨ tl2 = 1 := by rw [htl2]; split <;> omega
      refine p_go [] 40 ?_
      simp only [st_0, st_1, st_2, st_3, st_4, st_5, st_6, st_7, st_8, st_9, st_10, st_11, st_12, st_13, st_14, st_15, st_16, st_17, st_18, st_19, st_20, st_21, st_22, st_23, st_24, st_25, st_26, st_27, st_28, st_29, st_30, st_31, st_32, st_33, st_34, st_34a, st_35, st_36, st_37, st_38, st_39, st_42, st_44, st_45, st_47, st_40, st_41, st_46, st_48, st_49, st_43, go_0, go_s, cut_0, cut_s, get_0, get_s, put_0, put_1, put_s, clr_0, clr_s, unl_i, unl_l, unl_r, unl_n, nth_0, nth_s, sf_0, sf_s, cnd_0, cnd_1, cnd_2, cnd_3, cnd_4, cnd_5, fit_0, fit_1, fit_2, en_0, en_i, en_l, en_r, kb_t, kb_f, kb_n, sw_0, sw_s, ↓reduceIte, Nat.reduceEqDiff, Nat.left_eq_add, Nat.add_eq_left, Nat.add_left_cancel_iff, Nat.reduceAdd, Int.reduceLT, Int.reduceLE, Int.reduceAdd, Int.reduceSub, Int.reduceNeg, Int.reduceMul, Int.reduceToNat, Int.reduceEq, reduceCtorEq, true_and, and_true, true_or, or_true, and_false, false_and, or_false, false_or, not_true_eq_false, not_false_eq_true, Nat.le_refl, and_self, Sum.inl.injEq, Sum.inr.injEq, Option.some.injEq, hS_2, k_isref, pd_0, pd_s, List.cons_append, List.nil_append, Option.toList_none, Option.toList_some, tX1_makeCommands, rX1_makeCommands, nat1]
      refine ⟨⟨by omega, by omega⟩, ?_⟩
      refine cVQ (d' := 3) (P' := fun o h' => (stp pc op oq pt ob nw pc = none ∧ o = rI 0 ∧ h' = mkH h g nw pk2 jl js) ∨ ∃ nw', stp pc op oq pt ob nw pc = some nw' ∧ o = rI 1 ∧ h' = mkH h g nw' pk2 jl js) [] [] l_1_84 (k1 nw pk2 jl js) (e_step (k1 nw pk2 jl js) (k6 nw pk2 jl js) (k7 nw pk2 jl js) (k8 nw pk2 jl js) (k9 nw pk2 jl js) mkH_10 hpc (Nat.le_refl 3) hpt hnw (fun c => Or.inl ⟨c, rfl, rfl⟩) (fun nw' c => Or.inr ⟨nw', c, rfl, mkH_now⟩)) (by omega) ?_ (fun E h' q => by rcases q with ⟨_, q, _⟩ | ⟨_, _, q, _⟩ <;> cases q)
      intro r2 hr2 q
      rcases q with ⟨c, q1, q2⟩ | ⟨nw', c, q1, q2⟩
      · cases q1
        subst q2
        rw [c] at hP
        have hp : P (rI (if tl = 0 ∧ jm ≤ 40 then 0 else 6)) (hS (mkH h g nw pk2 jl js) g (gO g wc pc (if (if tl = 0 ∧ jm ≤ 40 then (0 : Int) else 6) = 5 then sz else made + 1))) := hP _ _ _ _ _ _ rfl
        refine p_go [] 40 ?_
        simp only [st_0, st_1, st_2, st_3, st_4, st_5, st_6, st_7, st_8, st_9, st_10, st_11, st_12, st_13, st_14, st_15, st_16, st_17, st_18, st_19, st_20, st_21, st_22, st_23, st_24, st_25, st_26, st_27, st_28, st_29, st_30, st_31, st_32, st_33, st_34, st_34a, st_35, st_36, st_37, st_38, st_39, st_42, st_44, st_45, st_47, st_40, st_41, st_46, st_48, st_49, st_43, go_0, go_s, cut_0, cut_s, get_0, get_s, put_0, put_1, put_s, clr_0, clr_s, unl_i, unl_l, unl_r, unl_n, nth_0, nth_s, sf_0, sf_s, cnd_0, cnd_1, cnd_2, cnd_3, cnd_4, cnd_5, fit_0, fit_1, fit_2, en_0, en_i, en_l, en_r, kb_t, kb_f, kb_n, sw_0, sw_s, ↓reduceIte, Nat.reduceEqDiff, Nat.left_eq_add, Nat.add_eq_left, Nat.add_left_cancel_iff, Nat.reduceAdd, Int.reduceLT, Int.reduceLE, Int.reduceAdd, Int.reduceSub, Int.reduceNeg, Int.reduceMul, Int.reduceToNat, Int.reduceEq, reduceCtorEq, true_and, and_true, true_or, or_true, and_false, false_and, or_false, false_or, not_true_eq_false, not_false_eq_true, Nat.le_refl, and_self, Sum.inl.injEq, Sum.inr.injEq, Option.some.injEq, hS_2, k_isref, pd_0, pd_s, List.cons_append, List.nil_append, Option.toList_none, Option.toList_some, tX1_makeCommands, rX1_makeCommands, k1 nw pk2 jl js]
        refine k_brI (fun g1 => ?_) (fun g1 => ?_)
        · have e : tl = 0 ∧ jm ≤ 40 := by
            by_cases hj : jm ≤ 40
            · rw [if_pos hj] at htl2; exact ⟨by omega, hj⟩
            · rw [if_neg hj] at htl2; omega
          rw [if_pos e, if_neg (by decide)] at hp
          exact hp
        · have e : ¬ (tl = 0 ∧ jm ≤ 40) := fun e => g1 (by rw [htl2, if_pos e.2]; exact e.1)
          rw [if_neg e, if_neg (by decide)] at hp
          exact hp
      · cases q1
        subst q2
        rw [c] at hP
        refine p_go [11] 40 ?_
        simp only [st_0, st_1, st_2, st_3, st_4, st_5, st_6, st_7, st_8, st_9, st_10, st_11, st_12, st_13, st_14, st_15, st_16, st_17, st_18, st_19, st_20, st_21, st_22, st_23, st_24, st_25, st_26, st_27, st_28, st_29, st_30, st_31, st_32, st_33, st_34, st_34a, st_35, st_36, st_37, st_38, st_39, st_42, st_44, st_45, st_47, st_40, st_41, st_46, st_48, st_49, st_43, go_0, go_s, cut_0, cut_s, get_0, get_s, put_0, put_1, put_s, clr_0, clr_s, unl_i, unl_l, unl_r, unl_n, nth_0, nth_s, sf_0, sf_s, cnd_0, cnd_1, cnd_2, cnd_3, cnd_4, cnd_5, fit_0, fit_1, fit_2, en_0, en_i, en_l, en_r, kb_t, kb_f, kb_n, sw_0, sw_s, ↓reduceIte, Nat.reduceEqDiff, Nat.left_eq_add, Nat.add_eq_left, Nat.add_left_cancel_iff, Nat.reduceAdd, Int.reduceLT, Int.reduceLE, Int.reduceAdd, Int.reduceSub, Int.reduceNeg, Int.reduceMul, Int.reduceToNat, Int.reduceEq, reduceCtorEq, true_and, and_true, true_or, or_true, and_false, false_and, or_false, false_or, not_true_eq_false, not_false_eq_true, Nat.le_refl, and_self, Sum.inl.injEq, Sum.inr.injEq, Option.some.injEq, hS_2, k_isref, pd_0, pd_s, List.cons_append, List.nil_append, Option.toList_none, Option.toList_some, tX1_makeCommands, rX1_makeCommands]
        exact ih (made + 1) tl2 nw' pk2 jl js (by omega) ht2 hJW (stp_b hnw pc (Nat.le_refl _) nw' c) (by rw [htl2]; exact hP)
    by_cases hj : jm ≤ 40
    · simp only [if_pos hj] at hgo ⊢
      simp only [st_0, st_1, st_2, st_3, st_4, st_5, st_6, st_7, st_8, st_9, st_10, st_11, st_12, st_13, st_14, st_15, st_16, st_17, st_18, st_19, st_20, st_21, st_22, st_23, st_24, st_25, st_26, st_27, st_28, st_29, st_30, st_31, st_32, st_33, st_34, st_34a, st_35, st_36, st_37, st_38, st_39, st_42, st_44, st_45, st_47, st_40, st_41, st_46, st_48, st_49, st_43, go_0, go_s, cut_0, cut_s, get_0, get_s, put_0, put_1, put_s, clr_0, clr_s, unl_i, unl_l, unl_r, unl_n, nth_0, nth_s, sf_0, sf_s, cnd_0, cnd_1, cnd_2, cnd_3, cnd_4, cnd_5, fit_0, fit_1, fit_2, en_0, en_i, en_l, en_r, kb_t, kb_f, kb_n, sw_0, sw_s, ↓reduceIte, Nat.reduceEqDiff, Nat.left_eq_add, Nat.add_eq_left, Nat.add_left_cancel_iff, Nat.reduceAdd, Int.reduceLT, Int.reduceLE, Int.reduceAdd, Int.reduceSub, Int.reduceNeg, Int.reduceMul, Int.reduceToNat, Int.reduceEq, reduceCtorEq, true_and, and_true, true_or, or_true, and_false, false_and, or_false, false_or, not_true_eq_false, not_false_eq_true, Nat.le_refl, and_self, Sum.inl.injEq, Sum.inr.injEq, Option.some.injEq, hS_2, k_isref, pd_0, pd_s, List.cons_append, List.nil_append, Option.toList_none, Option.toList_some, tX1_makeCommands, rX1_makeCommands]
      exact hgo tl rfl
    · simp only [if_neg hj] at hgo ⊢
      simp only [st_0, st_1, st_2, st_3, st_4, st_5, st_6, st_7, st_8, st_9, st_10, st_11, st_12, st_13, st_14, st_15, st_16, st_17, st_18, st_19, st_20, st_21, st_22, st_23, st_24, st_25, st_26, st_27, st_28, st_29, st_30, st_31, st_32, st_33, st_34, st_34a, st_35, st_36, st_37, st_38, st_39, st_42, st_44, st_45, st_47, st_40, st_41, st_46, st_48, st_49, st_43, go_0, go_s, cut_0, cut_s, get_0, get_s, put_0, put_1, put_s, clr_0, clr_s, unl_i, unl_l, unl_r, unl_n, nth_0, nth_s, sf_0, sf_s, cnd_0, cnd_1, cnd_2, cnd_3, cnd_4, cnd_5, fit_0, fit_1, fit_2, en_0, en_i, en_l, en_r, kb_t, kb_f, kb_n, sw_0, sw_s, ↓reduceIte, Nat.reduceEqDiff, Nat.left_eq_add, Nat.add_eq_left, Nat.add_left_cancel_iff, Nat.reduceAdd, Int.reduceLT, Int.reduceLE, Int.reduceAdd, Int.reduceSub, Int.reduceNeg, Int.reduceMul, Int.reduceToNat, Int.reduceEq, reduceCtorEq, true_and, and_true, true_or, or_true, and_false, false_and, or_false, false_or, not_true_eq_false, not_false_eq_true, Nat.le_refl, and_self, Sum.inl.injEq, Sum.inr.injEq, Option.some.injEq, hS_2, k_isref, pd_0, pd_s, List.cons_append, List.nil_append, Option.toList_none, Option.toList_some, tX1_makeCommands, rX1_makeCommands]
      exact hgo 1 rfl
theorem stl_lo {k : Nat} : ∀ (j p : Nat) (nw : F_), k < p → stl pc op oq j p nw k = nw k
  | 0, p, nw, _ => rfl
  | j + 1, p, nw, h => by
    unfold stl
    rw [stl_lo j (p + 1) _ (by omega), fS_n (by omega)]
theorem stl_hi : ∀ (j p : Nat) (nw : F_) (k : Nat), p ≤ k → k < p + j → -1 ≤ stl pc op oq j p nw k ∧ stl pc op oq j p nw k ≤ 0
  | 0, p, nw, k, h1, h2 => by omega
  | j + 1, p, nw, k, h1, h2 => by
    unfold stl
    by_cases hk : k = p
    · rw [hk, stl_lo j (p + 1) _ (by omega), fS_s]
      split <;> omega
    · exact stl_hi j (p + 1) _ k (by omega) (by omega)
theorem mkH_id {nw pk cl cs : F_} (h10 : h.2 (g + 10) = some (cI 8 nw)) (h11 : h.2 (g + 11) = some (cI 960 pk)) (hC : Rw h (g + 12) 40 120 cl cs) : mkH h g nw pk cl cs = h := by
  unfold mkH cmH
  rw [hS_id h10, hS_id h11, hS_id (c := cI (120 * 40) cs) hC.2.2, hS_id hC.2.1]
/-- what makeCommands makes of a grammar -/
def mkA (wc pc : Nat) (wl ws wp wq op oq pt ob nw pk cl cs : F_) : (Int × Nat) × F_ × F_ × F_ × F_ := mkc wc pc wl ws wp wq op oq pt ob 120 0 0 (stl pc op oq pc 0 nw) pk cl cs
set_option maxRecDepth 100000 in
set_option maxHeartbeats 4000000 in
theorem e_mkcs {P : PO → PH → Prop} {nw pk cl cs : F_} (hG : Gr h g wl ws wp wq op oq pt ob nw pk cl cs wc pc sz) (hW : RwW 20 20 wl) (hWc : RwW 40 120 cl) (hwc : wc ≤ 20) (hpc : pc ≤ 8) (hd : 4 ≤ d) (hpt : ∀ k : Nat, k < pc → 1 ≤ pt k ∧ pt k ≤ 400)
    (hP : ∀ r m nw' pk' cl' cs', mkA wc pc wl ws wp wq op oq pt ob nw pk cl cs = ((r, m), nw', pk', cl', cs') → P (rI r) (hS (mkH h g nw' pk' cl' cs') g (gO g wc pc (if r = 5 then sz else m)))) :
    k_Ev x d 0 0 mX1_makeCommands [vR g] h P := by
  obtain ⟨h1, hR, h4, h5, h6, h7, h8, h9, h10, h11, hC⟩ := hG
  refine k_enp 3 (Nat.le_of_ble_eq_true rfl) (p_go [] 40 ?_)
  simp only [st_0, st_1, st_2, st_3, st_4, st_5, st_6, st_7, st_8, st_9, st_10, st_11, st_12, st_13, st_14, st_15, st_16, st_17, st_18, st_19, st_20, st_21, st_22, st_23, st_24, st_25, st_26, st_27, st_28, st_29, st_30, st_31, st_32, st_33, st_34, st_34a, st_35, st_36, st_37, st_38, st_39, st_42, st_44, st_45, st_47, st_40, st_41, st_46, st_48, st_49, st_43, go_0, go_s, cut_0, cut_s, get_0, get_s, put_0, put_1, put_s, clr_0, clr_s, unl_i, unl_l, unl_r, unl_n, nth_0, nth_s, sf_0, sf_s, cnd_0, cnd_1, cnd_2, cnd_3, cnd_4, cnd_5, fit_0, fit_1, fit_2, en_0, en_i, en_l, en_r, kb_t, kb_f, kb_n, sw_0, sw_s, ↓reduceIte, Nat.reduceEqDiff, Nat.left_eq_add, Nat.add_eq_left, Nat.add_left_cancel_iff, Nat.reduceAdd, Int.reduceLT, Int.reduceLE, Int.reduceAdd, Int.reduceSub, Int.reduceNeg, Int.reduceMul, Int.reduceToNat, Int.reduceEq, reduceCtorEq, true_and, and_true, true_or, or_true, and_false, false_and, or_false, false_or, not_true_eq_false, not_false_eq_true, Nat.le_refl, and_self, Sum.inl.injEq, Sum.inr.injEq, Option.some.injEq, hS_2, k_isref, pd_0, pd_s, List.cons_append, List.nil_append, Option.toList_none, Option.toList_some, tX1_makeCommands, rX1_makeCommands]
  refine cV (d' := 2) [vI ((0 : Nat) : Int)] [] l_1_71 h1 (e_settle h1 h6 h7 h10 hpc (by omega) (Nat.le_refl 2)) (by omega) ?_
  have e : hS h (g + 10) (cI 8 (stl pc op oq (pc - 0) 0 nw)) = mkH h g (stl pc op oq pc 0 nw) pk cl cs := by
    have := mkH_now (h := h) (g := g) (nw := nw) (pk := pk) (cl := cl) (cs := cs) (nw' := stl pc op oq (pc - 0) 0 nw)
    rw [mkH_id h10 h11 hC] at this
    exact this
  rw [e]
  exact w_mkcs h1 hR hW h4 h5 h6 h7 h8 h9 hC hwc hpc hd hpt 120 0 0 _ pk cl cs (by omega) (Or.inl rfl) hWc (fun k hk => (stl_hi pc 0 nw k (by omega) (by omega)).1) hP
end Gram32
