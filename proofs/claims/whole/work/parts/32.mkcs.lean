/-! Grammar: takeCommands -/
section Gram32
variable {x : Bool} {d : Nat} {h h0 : PH} {g wc pc sz pn : Nat} {wl ws wp wq op oq pt ob nw pk cl cs : F_}
/-- the heap is as it was outside the Grammar -/
def Gf (h0 h : PH) (g : Nat) : Prop := h.1 = h0.1 ∧ ∀ z, (z < g ∨ g + 14 < z) → h.2 z = h0.2 z
theorem Gf.s {a : Nat} {c : PC} (hf : Gf h0 h g) (h1 : g ≤ a) (h2 : a ≤ g + 14) : Gf h0 (hS h a c) g := ⟨hf.1, fun z hz => (hS_n (by omega)).trans (hf.2 z hz)⟩
theorem Gf.cm {cl' cs' : F_} (hf : Gf h0 h g) : Gf h0 (cmH h g cl' cs') g := (hf.s (by omega) (by omega)).s (by omega) (by omega)
theorem Gr.cell {wc' pc' sz' pn' : Nat} (hG : Gr h g wl ws wp wq op oq pt ob nw pk cl cs wc pc sz pn) : Gr (hS h g (gD g wc' pc' sz' pn')) g wl ws wp wq op oq pt ob nw pk cl cs wc' pc' sz' pn' := by
  obtain ⟨g1, gR, g4, g5, g6, g7, g8, g9, g10, g11, gC⟩ := hG
  refine ⟨hS_s _ _ _, ⟨?_, ?_, ?_⟩, ?_, ?_, ?_, ?_, ?_, ?_, ?_, ?_, ⟨?_, ?_, ?_⟩⟩
  all_goals refine (hS_n (by omega)).trans ?_
  · exact gR.1
  · exact gR.2.1
  · exact gR.2.2
  · exact g4
  · exact g5
  · exact g6
  · exact g7
  · exact g8
  · exact g9
  · exact g10
  · exact g11
  · exact gC.1
  · exact gC.2.1
  · exact gC.2.2
theorem Gr.now {nw' : F_} (hG : Gr h g wl ws wp wq op oq pt ob nw pk cl cs wc pc sz pn) : Gr (hS h (g + 10) (cI 8 nw')) g wl ws wp wq op oq pt ob nw' pk cl cs wc pc sz pn := by
  obtain ⟨g1, gR, g4, g5, g6, g7, g8, g9, g10, g11, gC⟩ := hG
  refine ⟨?_, ⟨?_, ?_, ?_⟩, ?_, ?_, ?_, ?_, ?_, ?_, hS_s _ _ _, ?_, ⟨?_, ?_, ?_⟩⟩
  all_goals refine (hS_n (by omega)).trans ?_
  · exact g1
  · exact gR.1
  · exact gR.2.1
  · exact gR.2.2
  · exact g4
  · exact g5
  · exact g6
  · exact g7
  · exact g8
  · exact g9
  · exact g11
  · exact gC.1
  · exact gC.2.1
  · exact gC.2.2
theorem Gr.pks {pk' : F_} (hG : Gr h g wl ws wp wq op oq pt ob nw pk cl cs wc pc sz pn) : Gr (hS h (g + 11) (cI 960 pk')) g wl ws wp wq op oq pt ob nw pk' cl cs wc pc sz pn := by
  obtain ⟨g1, gR, g4, g5, g6, g7, g8, g9, g10, g11, gC⟩ := hG
  refine ⟨?_, ⟨?_, ?_, ?_⟩, ?_, ?_, ?_, ?_, ?_, ?_, ?_, hS_s _ _ _, ⟨?_, ?_, ?_⟩⟩
  all_goals refine (hS_n (by omega)).trans ?_
  · exact g1
  · exact gR.1
  · exact gR.2.1
  · exact gR.2.2
  · exact g4
  · exact g5
  · exact g6
  · exact g7
  · exact g8
  · exact g9
  · exact g10
  · exact gC.1
  · exact gC.2.1
  · exact gC.2.2
theorem Gr.cms {cl' cs' : F_} (hG : Gr h g wl ws wp wq op oq pt ob nw pk cl cs wc pc sz pn) : Gr (cmH h g cl' cs') g wl ws wp wq op oq pt ob nw pk cl' cs' wc pc sz pn := by
  obtain ⟨g1, gR, g4, g5, g6, g7, g8, g9, g10, g11, gC⟩ := hG
  refine ⟨?_, ⟨?_, ?_, ?_⟩, ?_, ?_, ?_, ?_, ?_, ?_, ?_, ?_, cmH_R gC⟩
  all_goals refine (cmH_n (by omega) (by omega)).trans ?_
  · exact g1
  · exact gR.1
  · exact gR.2.1
  · exact gR.2.2
  · exact g4
  · exact g5
  · exact g6
  · exact g7
  · exact g8
  · exact g9
  · exact g10
  · exact g11
theorem stl_lo {k : Nat} : ∀ (j p : Nat) (nw : F_), k < p → stl pc op oq j p nw k = nw k
  | 0, p, nw, _ => rfl
  | j + 1, p, nw, h => by
    unfold stl
    rw [stl_lo j (p + 1) _ (by omega), fS_n (by omega)]
theorem stl_hi : ∀ (j p : Nat) (nw : F_) (k : Nat), p ≤ k → k < p + j → -1 ≤ stl pc op oq j p nw k ∧ stl pc op oq j p nw k ≤ 0
  | 0, p, nw, k, h1, h2 => by omega
  | j + 1, p, nw, k, h1, h2 => by
    unfold stl
    by_cases hk : k = p
    · rw [hk, stl_lo j (p + 1) _ (by omega), fS_s]
      split <;> omega
    · exact stl_hi j (p + 1) _ k (by omega) (by omega)
theorem stl_up {k : Nat} : ∀ (j p : Nat) (nw : F_), p + j ≤ k → stl pc op oq j p nw k = nw k
  | 0, p, nw, _ => rfl
  | j + 1, p, nw, h => by
    unfold stl
    rw [stl_up j (p + 1) _ (by omega), fS_n (by omega)]
/-- what settles does not hang on what was at hand ahead -/
theorem stl_ag (hop : ∀ k : Nat, k < pc → op k < k) : ∀ (j p : Nat) (nw nw' : F_), p + j = pc → (∀ k, k < p → nw k = nw' k) → (∀ k, pc ≤ k → nw k = nw' k) → stl pc op oq j p nw = stl pc op oq j p nw'
  | 0, p, nw, nw', hp, h1, h2 => by
    funext k
    show nw k = nw' k
    by_cases hk : k < p
    · exact h1 k hk
    · exact h2 k (by omega)
  | j + 1, p, nw, nw', hp, h1, h2 => by
    have hc : cm pc nw (op p) (oq p) = cm pc nw' (op p) (oq p) := by
      unfold cm
      by_cases hz : 0 ≤ op p ∧ op p < (pc : Int)
      · have := hop p (by omega)
        rw [h1 (op p).toNat (by omega)]
      · rw [if_neg (fun q => hz q.1), if_neg (fun q => hz q.1)]
    unfold stl
    rw [hc]
    refine stl_ag hop j (p + 1) _ _ (by omega) (fun k hk => ?_) (fun k hk => ?_)
    · unfold fS
      split
      · rfl
      · exact h1 k (by omega)
    · unfold fS
      split
      · rfl
      · exact h2 k hk
theorem stp_up {k : Nat} (hk : pc ≤ k) : ∀ (p : Nat), p ≤ pc → ∀ nw', stp pc op oq pt ob nw p = some nw' → nw' k = nw k
  | 0, _, nw', h => by cases h
  | p + 1, hp, nw', h => by
    unfold stp at h
    split at h
    · cases h
      rw [stl_up _ _ _ (by omega), fS_n (by omega)]
    · exact stp_up hk p (by omega) nw' h
/-- the fault behind all, and what is at hand then -/
def flt (wc pc : Nat) (wl wp wq op oq pt ob : F_) : Nat → Int → F_ → Int × F_
  | 0, _, nw => (5, nw)
  | j + 1, tl, nw =>
    match stp pc op oq pt ob nw pc with
    | none => (if tl = 0 ∧ sdn pc nw wp wq wl wc 0 0 ≤ 40 then 0 else 6, nw)
    | some nw' => flt wc pc wl wp wq op oq pt ob j (if sdn pc nw wp wq wl wc 0 0 ≤ 40 then tl else 1) nw'
theorem flt_up {k : Nat} (hk : pc ≤ k) : ∀ (j : Nat) (tl : Int) (nw : F_), (flt wc pc wl wp wq op oq pt ob j tl nw).2 k = nw k
  | 0, _, nw => rfl
  | j + 1, tl, nw => by
    unfold flt
    split
    · rfl
    · rename_i nw' hs
      rw [flt_up hk j _ nw', stp_up hk pc (Nat.le_refl _) nw' hs]
theorem mkc_flt : ∀ (j made : Nat) (tl : Int) (nw pk cl cs : F_), (mkc wc pc wl ws wp wq op oq pt ob j made tl nw pk cl cs).1.1 = (flt wc pc wl wp wq op oq pt ob j tl nw).1
  | 0, _, _, _, _, _, _ => rfl
  | j + 1, made, tl, nw, pk, cl, cs => by
    unfold mkc flt
    cases hs : stp pc op oq pt ob nw pc with
    | none => simp only [jwd_1]
    | some nw' =>
      simp only [jwd_1]
      exact mkc_flt j _ _ _ _ _ _
set_option maxRecDepth 100000 in
set_option maxHeartbeats 4000000 in
theorem w_flt {P : PO → PH → Prop} (hW : RwW 20 20 wl) (hwc : wc ≤ 20) (hpc : pc ≤ 8) (hd : 4 ≤ d) (hpt : ∀ k : Nat, k < pc → 1 ≤ pt k ∧ pt k ≤ 400) : ∀ (j seen : Nat) (tl : Int) (nw : F_) (h : PH), seen + j = 120 → (tl = 0 ∨ tl = 1) → Gr h g wl ws wp wq op oq pt ob nw pk cl cs wc pc sz pn → Gf h0 h g → (∀ k : Nat, k < pc → -1 ≤ nw k) →
    (∀ h', Gf h0 h' g → Gr h' g wl ws wp wq op oq pt ob (flt wc pc wl wp wq op oq pt ob j tl nw).2 pk cl cs wc pc sz pn → P (rI (flt wc pc wl wp wq op oq pt ob j tl nw).1) h') →
    k_Wp x d 0 0 mX1_faultBehindAll P 0 0 11 [some (vR g), some (vI tl), some (vI 1), some (vI seen)] [] h := by
  intro j
  induction j with
  | zero =>
    intro seen tl nw h hm htl hG hf hnw hP
    have e : (120 : Int) ≤ (seen : Int) := by omega
    have hp := hP h hf hG
    refine p_go [] 40 ?_
    simp only [st_0, st_1, st_2, st_3, st_4, st_5, st_6, st_7, st_8, st_9, st_10, st_11, st_12, st_13, st_14, st_15, st_16, st_17, st_18, st_19, st_20, st_21, st_22, st_23, st_24, st_25, st_26, st_27, st_28, st_29, st_30, st_31, st_32, st_33, st_34, st_34a, st_35, st_36, st_37, st_38, st_39, st_42, st_44, st_45, st_47, st_40, st_41, st_46, st_48, st_49, st_43, go_0, go_s, cut_0, cut_s, get_0, get_s, put_0, put_1, put_s, clr_0, clr_s, unl_i, unl_l, unl_r, unl_n, nth_0, nth_s, sf_0, sf_s, cnd_0, cnd_1, cnd_2, cnd_3, cnd_4, cnd_5, fit_0, fit_1, fit_2, en_0, en_i, en_l, en_r, kb_t, kb_f, kb_n, sw_0, sw_s, ↓reduceIte, Nat.reduceEqDiff, Nat.left_eq_add, Nat.add_eq_left, Nat.add_left_cancel_iff, Nat.reduceAdd, Int.reduceLT, Int.reduceLE, Int.reduceAdd, Int.reduceSub, Int.reduceNeg, Int.reduceMul, Int.reduceToNat, Int.reduceEq, reduceCtorEq, true_and, and_true, true_or, or_true, and_false, false_and, or_false, false_or, not_true_eq_false, not_false_eq_true, Nat.le_refl, and_self, Sum.inl.injEq, Sum.inr.injEq, Option.some.injEq, hS_2, k_isref, pd_0, pd_s, List.cons_append, List.nil_append, Option.toList_none, Option.toList_some, tX1_faultBehindAll, rX1_faultBehindAll, e]
    exact hp
  | succ j ih =>
    intro seen tl nw h hm htl hG hf hnw hP
    have e : ¬ (120 : Int) ≤ (seen : Int) := by omega
    have hG0 := hG
    obtain ⟨g1, gR, g4, g5, g6, g7, g8, g9, g10, g11, gC⟩ := hG
    unfold flt at hP
    have hgo : ∀ tl2 : Int, tl2 = (if sdn pc nw wp wq wl wc 0 0 ≤ 40 then tl else 1) → k_Wp x d 0 0 mX1_faultBehindAll P 0 0 39 [some (vR g), some (vI tl), some (vI 1), some (vI seen)] [vI tl2] h := by
      intro tl2 htl2
      have ht2 : tl2 = 0 ∨ tl2 = 1 := by rw [htl2]; split <;> omega
      refine p_go [] 40 ?_
      simp only [st_0, st_1, st_2, st_3, st_4, st_5, st_6, st_7, st_8, st_9, st_10, st_11, st_12, st_13, st_14, st_15, st_16, st_17, st_18, st_19, st_20, st_21, st_22, st_23, st_24, st_25, st_26, st_27, st_28, st_29, st_30, st_31, st_32, st_33, st_34, st_34a, st_35, st_36, st_37, st_38, st_39, st_42, st_44, st_45, st_47, st_40, st_41, st_46, st_48, st_49, st_43, go_0, go_s, cut_0, cut_s, get_0, get_s, put_0, put_1, put_s, clr_0, clr_s, unl_i, unl_l, unl_r, unl_n, nth_0, nth_s, sf_0, sf_s, cnd_0, cnd_1, cnd_2, cnd_3, cnd_4, cnd_5, fit_0, fit_1, fit_2, en_0, en_i, en_l, en_r, kb_t, kb_f, kb_n, sw_0, sw_s, ↓reduceIte, Nat.reduceEqDiff, Nat.left_eq_add, Nat.add_eq_left, Nat.add_left_cancel_iff, Nat.reduceAdd, Int.reduceLT, Int.reduceLE, Int.reduceAdd, Int.reduceSub, Int.reduceNeg, Int.reduceMul, Int.reduceToNat, Int.reduceEq, reduceCtorEq, true_and, and_true, true_or, or_true, and_false, false_and, or_false, false_or, not_true_eq_false, not_false_eq_true, Nat.le_refl, and_self, Sum.inl.injEq, Sum.inr.injEq, Option.some.injEq, hS_2, k_isref, pd_0, pd_s, List.cons_append, List.nil_append, Option.toList_none, Option.toList_some, tX1_faultBehindAll, rX1_faultBehindAll]
      refine cVQ (d' := 3) (P' := fun o h' => (stp pc op oq pt ob nw pc = none ∧ o = rI 0 ∧ h' = h) ∨ ∃ nw', stp pc op oq pt ob nw pc = some nw' ∧ o = rI 1 ∧ h' = hS h (g + 10) (cI 8 nw')) [] [] l_1_88 g1 (e_step g1 g6 g7 g8 g9 g10 hpc (Nat.le_refl 3) hpt hnw (fun c => Or.inl ⟨c, rfl, rfl⟩) (fun nw' c => Or.inr ⟨nw', c, rfl, rfl⟩)) (by omega) ?_ (fun E h' q => by rcases q with ⟨_, q, _⟩ | ⟨_, _, q, _⟩ <;> cases q)
      intro r2 hr2 q
      rcases q with ⟨c, q1, q2⟩ | ⟨nw', c, q1, q2⟩
      · cases q1
        subst q2
        rw [c] at hP
        have hp : P (rI (if tl = 0 ∧ sdn pc nw wp wq wl wc 0 0 ≤ 40 then 0 else 6)) hr2 := hP _ hf hG0
        have hend : k_Wp x d 0 0 mX1_faultBehindAll P 0 0 51 [some (vR g), some (vI tl2), some (vI 0), some (vI ((seen + 1 : Nat) : Int))] [] hr2 := by
          refine p_go [] 40 ?_
          simp only [st_0, st_1, st_2, st_3, st_4, st_5, st_6, st_7, st_8, st_9, st_10, st_11, st_12, st_13, st_14, st_15, st_16, st_17, st_18, st_19, st_20, st_21, st_22, st_23, st_24, st_25, st_26, st_27, st_28, st_29, st_30, st_31, st_32, st_33, st_34, st_34a, st_35, st_36, st_37, st_38, st_39, st_42, st_44, st_45, st_47, st_40, st_41, st_46, st_48, st_49, st_43, go_0, go_s, cut_0, cut_s, get_0, get_s, put_0, put_1, put_s, clr_0, clr_s, unl_i, unl_l, unl_r, unl_n, nth_0, nth_s, sf_0, sf_s, cnd_0, cnd_1, cnd_2, cnd_3, cnd_4, cnd_5, fit_0, fit_1, fit_2, en_0, en_i, en_l, en_r, kb_t, kb_f, kb_n, sw_0, sw_s, ↓reduceIte, Nat.reduceEqDiff, Nat.left_eq_add, Nat.add_eq_left, Nat.add_left_cancel_iff, Nat.reduceAdd, Int.reduceLT, Int.reduceLE, Int.reduceAdd, Int.reduceSub, Int.reduceNeg, Int.reduceMul, Int.reduceToNat, Int.reduceEq, reduceCtorEq, true_and, and_true, true_or, or_true, and_false, false_and, or_false, false_or, not_true_eq_false, not_false_eq_true, Nat.le_refl, and_self, Sum.inl.injEq, Sum.inr.injEq, Option.some.injEq, hS_2, k_isref, pd_0, pd_s, List.cons_append, List.nil_append, Option.toList_none, Option.toList_some, tX1_faultBehindAll, rX1_faultBehindAll]
          refine k_brI (fun g1 => ?_) (fun g1 => ?_)
          · have e : tl = 0 ∧ sdn pc nw wp wq wl wc 0 0 ≤ 40 := by
              by_cases hj : sdn pc nw wp wq wl wc 0 0 ≤ 40
              · rw [if_pos hj] at htl2; exact ⟨by omega, hj⟩
              · rw [if_neg hj] at htl2; omega
            rw [if_pos e] at hp
            exact hp
          · have e : ¬ (tl = 0 ∧ sdn pc nw wp wq wl wc 0 0 ≤ 40) := fun e => g1 (by rw [htl2, if_pos e.2]; exact e.1)
            rw [if_neg e] at hp
            exact hp
        refine p_go [51] 40 ?_
        simp only [st_0, st_1, st_2, st_3, st_4, st_5, st_6, st_7, st_8, st_9, st_10, st_11, st_12, st_13, st_14, st_15, st_16, st_17, st_18, st_19, st_20, st_21, st_22, st_23, st_24, st_25, st_26, st_27, st_28, st_29, st_30, st_31, st_32, st_33, st_34, st_34a, st_35, st_36, st_37, st_38, st_39, st_42, st_44, st_45, st_47, st_40, st_41, st_46, st_48, st_49, st_43, go_0, go_s, cut_0, cut_s, get_0, get_s, put_0, put_1, put_s, clr_0, clr_s, unl_i, unl_l, unl_r, unl_n, nth_0, nth_s, sf_0, sf_s, cnd_0, cnd_1, cnd_2, cnd_3, cnd_4, cnd_5, fit_0, fit_1, fit_2, en_0, en_i, en_l, en_r, kb_t, kb_f, kb_n, sw_0, sw_s, ↓reduceIte, Nat.reduceEqDiff, Nat.left_eq_add, Nat.add_eq_left, Nat.add_left_cancel_iff, Nat.reduceAdd, Int.reduceLT, Int.reduceLE, Int.reduceAdd, Int.reduceSub, Int.reduceNeg, Int.reduceMul, Int.reduceToNat, Int.reduceEq, reduceCtorEq, true_and, and_true, true_or, or_true, and_false, false_and, or_false, false_or, not_true_eq_false, not_false_eq_true, Nat.le_refl, and_self, Sum.inl.injEq, Sum.inr.injEq, Option.some.injEq, hS_2, k_isref, pd_0, pd_s, List.cons_append, List.nil_append, Option.toList_none, Option.toList_some, tX1_faultBehindAll, rX1_faultBehindAll, nat1]
        exact ⟨⟨by omega, by omega⟩, k_brI (fun _ => hend) (fun _ => hend)⟩
      · cases q1
        subst q2
        rw [c] at hP
        refine p_go [11] 40 ?_
        simp only [st_0, st_1, st_2, st_3, st_4, st_5, st_6, st_7, st_8, st_9, st_10, st_11, st_12, st_13, st_14, st_15, st_16, st_17, st_18, st_19, st_20, st_21, st_22, st_23, st_24, st_25, st_26, st_27, st_28, st_29, st_30, st_31, st_32, st_33, st_34, st_34a, st_35, st_36, st_37, st_38, st_39, st_42, st_44, st_45, st_47, st_40, st_41, st_46, st_48, st_49, st_43, go_0, go_s, cut_0, cut_s, get_0, get_s, put_0, put_1, put_s, clr_0, clr_s, unl_i, unl_l, unl_r, unl_n, nth_0, nth_s, sf_0, sf_s, cnd_0, cnd_1, cnd_2, cnd_3, cnd_4, cnd_5, fit_0, fit_1, fit_2, en_0, en_i, en_l, en_r, kb_t, kb_f, kb_n, sw_0, sw_s, ↓reduceIte, Nat.reduceEqDiff, Nat.left_eq_add, Nat.add_eq_left, Nat.add_left_cancel_iff, Nat.reduceAdd, Int.reduceLT, Int.reduceLE, Int.reduceAdd, Int.reduceSub, Int.reduceNeg, Int.reduceMul, Int.reduceToNat, Int.reduceEq, reduceCtorEq, true_and, and_true, true_or, or_true, and_false, false_and, or_false, false_or, not_true_eq_false, not_false_eq_true, Nat.le_refl, and_self, Sum.inl.injEq, Sum.inr.injEq, Option.some.injEq, hS_2, k_isref, pd_0, pd_s, List.cons_append, List.nil_append, Option.toList_none, Option.toList_some, tX1_faultBehindAll, rX1_faultBehindAll, nat1]
        exact ⟨⟨by omega, by omega⟩, ih (seen + 1) tl2 nw' _ (by omega) ht2 hG0.now (hf.s (by omega) (by omega)) (stp_b hnw pc (Nat.le_refl _) nw' c) (by rw [htl2]; exact hP)⟩
    refine p_go [39] 40 ?_
    by_cases ht0 : tl = 0
    · simp only [st_0, st_1, st_2, st_3, st_4, st_5, st_6, st_7, st_8, st_9, st_10, st_11, st_12, st_13, st_14, st_15, st_16, st_17, st_18, st_19, st_20, st_21, st_22, st_23, st_24, st_25, st_26, st_27, st_28, st_29, st_30, st_31, st_32, st_33, st_34, st_34a, st_35, st_36, st_37, st_38, st_39, st_42, st_44, st_45, st_47, st_40, st_41, st_46, st_48, st_49, st_43, go_0, go_s, cut_0, cut_s, get_0, get_s, put_0, put_1, put_s, clr_0, clr_s, unl_i, unl_l, unl_r, unl_n, nth_0, nth_s, sf_0, sf_s, cnd_0, cnd_1, cnd_2, cnd_3, cnd_4, cnd_5, fit_0, fit_1, fit_2, en_0, en_i, en_l, en_r, kb_t, kb_f, kb_n, sw_0, sw_s, ↓reduceIte, Nat.reduceEqDiff, Nat.left_eq_add, Nat.add_eq_left, Nat.add_left_cancel_iff, Nat.reduceAdd, Int.reduceLT, Int.reduceLE, Int.reduceAdd, Int.reduceSub, Int.reduceNeg, Int.reduceMul, Int.reduceToNat, Int.reduceEq, reduceCtorEq, true_and, and_true, true_or, or_true, and_false, false_and, or_false, false_or, not_true_eq_false, not_false_eq_true, Nat.le_refl, and_self, Sum.inl.injEq, Sum.inr.injEq, Option.some.injEq, hS_2, k_isref, pd_0, pd_s, List.cons_append, List.nil_append, Option.toList_none, Option.toList_some, tX1_faultBehindAll, rX1_faultBehindAll, e, ht0]
      refine cV (d' := 2) [] [] l_1_85 g1 (e_sounds g1 gR hW g4 g5 g10 hwc hpc (Nat.le_refl 2)) (by omega) (p_go [39] 40 ?_)
      simp only [st_0, st_1, st_2, st_3, st_4, st_5, st_6, st_7, st_8, st_9, st_10, st_11, st_12, st_13, st_14, st_15, st_16, st_17, st_18, st_19, st_20, st_21, st_22, st_23, st_24, st_25, st_26, st_27, st_28, st_29, st_30, st_31, st_32, st_33, st_34, st_34a, st_35, st_36, st_37, st_38, st_39, st_42, st_44, st_45, st_47, st_40, st_41, st_46, st_48, st_49, st_43, go_0, go_s, cut_0, cut_s, get_0, get_s, put_0, put_1, put_s, clr_0, clr_s, unl_i, unl_l, unl_r, unl_n, nth_0, nth_s, sf_0, sf_s, cnd_0, cnd_1, cnd_2, cnd_3, cnd_4, cnd_5, fit_0, fit_1, fit_2, en_0, en_i, en_l, en_r, kb_t, kb_f, kb_n, sw_0, sw_s, ↓reduceIte, Nat.reduceEqDiff, Nat.left_eq_add, Nat.add_eq_left, Nat.add_left_cancel_iff, Nat.reduceAdd, Int.reduceLT, Int.reduceLE, Int.reduceAdd, Int.reduceSub, Int.reduceNeg, Int.reduceMul, Int.reduceToNat, Int.reduceEq, reduceCtorEq, true_and, and_true, true_or, or_true, and_false, false_and, or_false, false_or, not_true_eq_false, not_false_eq_true, Nat.le_refl, and_self, Sum.inl.injEq, Sum.inr.injEq, Option.some.injEq, hS_2, k_isref, pd_0, pd_s, List.cons_append, List.nil_append, Option.toList_none, Option.toList_some, tX1_faultBehindAll, rX1_faultBehindAll]
      rw [ht0] at hgo
      refine k_brI (fun c => ?_) (fun c => ?_)
      · exact hgo 0 (by rw [if_pos (by omega)])
      · exact hgo 1 (by rw [if_neg (by omega)])
    · simp only [st_0, st_1, st_2, st_3, st_4, st_5, st_6, st_7, st_8, st_9, st_10, st_11, st_12, st_13, st_14, st_15, st_16, st_17, st_18, st_19, st_20, st_21, st_22, st_23, st_24, st_25, st_26, st_27, st_28, st_29, st_30, st_31, st_32, st_33, st_34, st_34a, st_35, st_36, st_37, st_38, st_39, st_42, st_44, st_45, st_47, st_40, st_41, st_46, st_48, st_49, st_43, go_0, go_s, cut_0, cut_s, get_0, get_s, put_0, put_1, put_s, clr_0, clr_s, unl_i, unl_l, unl_r, unl_n, nth_0, nth_s, sf_0, sf_s, cnd_0, cnd_1, cnd_2, cnd_3, cnd_4, cnd_5, fit_0, fit_1, fit_2, en_0, en_i, en_l, en_r, kb_t, kb_f, kb_n, sw_0, sw_s, ↓reduceIte, Nat.reduceEqDiff, Nat.left_eq_add, Nat.add_eq_left, Nat.add_left_cancel_iff, Nat.reduceAdd, Int.reduceLT, Int.reduceLE, Int.reduceAdd, Int.reduceSub, Int.reduceNeg, Int.reduceMul, Int.reduceToNat, Int.reduceEq, reduceCtorEq, true_and, and_true, true_or, or_true, and_false, false_and, or_false, false_or, not_true_eq_false, not_false_eq_true, Nat.le_refl, and_self, Sum.inl.injEq, Sum.inr.injEq, Option.some.injEq, hS_2, k_isref, pd_0, pd_s, List.cons_append, List.nil_append, Option.toList_none, Option.toList_some, tX1_faultBehindAll, rX1_faultBehindAll, e, ht0]
      exact hgo 1 (by split <;> omega)
set_option maxRecDepth 100000 in
set_option maxHeartbeats 4000000 in
theorem e_flt {P : PO → PH → Prop} (hG : Gr h g wl ws wp wq op oq pt ob nw pk cl cs wc pc sz pn) (hW : RwW 20 20 wl) (hwc : wc ≤ 20) (hpc : pc ≤ 8) (hd : 4 ≤ d) (hpt : ∀ k : Nat, k < pc → 1 ≤ pt k ∧ pt k ≤ 400)
    (hP : ∀ h', Gf h h' g → Gr h' g wl ws wp wq op oq pt ob (flt wc pc wl wp wq op oq pt ob 120 0 (stl pc op oq pc 0 nw)).2 pk cl cs wc pc sz pn → P (rI (flt wc pc wl wp wq op oq pt ob 120 0 (stl pc op oq pc 0 nw)).1) h') :
    k_Ev x d 0 0 mX1_faultBehindAll [vR g] h P := by
  have hG0 := hG
  obtain ⟨g1, gR, g4, g5, g6, g7, g8, g9, g10, g11, gC⟩ := hG
  refine k_enp 3 (Nat.le_of_ble_eq_true rfl) (p_go [] 40 ?_)
  simp only [st_0, st_1, st_2, st_3, st_4, st_5, st_6, st_7, st_8, st_9, st_10, st_11, st_12, st_13, st_14, st_15, st_16, st_17, st_18, st_19, st_20, st_21, st_22, st_23, st_24, st_25, st_26, st_27, st_28, st_29, st_30, st_31, st_32, st_33, st_34, st_34a, st_35, st_36, st_37, st_38, st_39, st_42, st_44, st_45, st_47, st_40, st_41, st_46, st_48, st_49, st_43, go_0, go_s, cut_0, cut_s, get_0, get_s, put_0, put_1, put_s, clr_0, clr_s, unl_i, unl_l, unl_r, unl_n, nth_0, nth_s, sf_0, sf_s, cnd_0, cnd_1, cnd_2, cnd_3, cnd_4, cnd_5, fit_0, fit_1, fit_2, en_0, en_i, en_l, en_r, kb_t, kb_f, kb_n, sw_0, sw_s, ↓reduceIte, Nat.reduceEqDiff, Nat.left_eq_add, Nat.add_eq_left, Nat.add_left_cancel_iff, Nat.reduceAdd, Int.reduceLT, Int.reduceLE, Int.reduceAdd, Int.reduceSub, Int.reduceNeg, Int.reduceMul, Int.reduceToNat, Int.reduceEq, reduceCtorEq, true_and, and_true, true_or, or_true, and_false, false_and, or_false, false_or, not_true_eq_false, not_false_eq_true, Nat.le_refl, and_self, Sum.inl.injEq, Sum.inr.injEq, Option.some.injEq, hS_2, k_isref, pd_0, pd_s, List.cons_append, List.nil_append, Option.toList_none, Option.toList_some, tX1_faultBehindAll, rX1_faultBehindAll]
  refine cV (d' := 2) [vI ((0 : Nat) : Int)] [] l_1_81 g1 (e_settle g1 g6 g7 g10 hpc (by omega) (Nat.le_refl 2)) (by omega) (p_go [11] 40 ?_)
  simp only [st_0, st_1, st_2, st_3, st_4, st_5, st_6, st_7, st_8, st_9, st_10, st_11, st_12, st_13, st_14, st_15, st_16, st_17, st_18, st_19, st_20, st_21, st_22, st_23, st_24, st_25, st_26, st_27, st_28, st_29, st_30, st_31, st_32, st_33, st_34, st_34a, st_35, st_36, st_37, st_38, st_39, st_42, st_44, st_45, st_47, st_40, st_41, st_46, st_48, st_49, st_43, go_0, go_s, cut_0, cut_s, get_0, get_s, put_0, put_1, put_s, clr_0, clr_s, unl_i, unl_l, unl_r, unl_n, nth_0, nth_s, sf_0, sf_s, cnd_0, cnd_1, cnd_2, cnd_3, cnd_4, cnd_5, fit_0, fit_1, fit_2, en_0, en_i, en_l, en_r, kb_t, kb_f, kb_n, sw_0, sw_s, ↓reduceIte, Nat.reduceEqDiff, Nat.left_eq_add, Nat.add_eq_left, Nat.add_left_cancel_iff, Nat.reduceAdd, Int.reduceLT, Int.reduceLE, Int.reduceAdd, Int.reduceSub, Int.reduceNeg, Int.reduceMul, Int.reduceToNat, Int.reduceEq, reduceCtorEq, true_and, and_true, true_or, or_true, and_false, false_and, or_false, false_or, not_true_eq_false, not_false_eq_true, Nat.le_refl, and_self, Sum.inl.injEq, Sum.inr.injEq, Option.some.injEq, hS_2, k_isref, pd_0, pd_s, List.cons_append, List.nil_append, Option.toList_none, Option.toList_some, tX1_faultBehindAll, rX1_faultBehindAll]
  exact w_flt (h0 := h) hW hwc hpc hd hpt 120 0 0 _ _ (by omega) (Or.inl rfl) hG0.now (Gf.s ⟨rfl, fun _ _ => rfl⟩ (by omega) (by omega)) (fun k hk => (stl_hi pc 0 nw k (by omega) (by omega)).1) hP
set_option maxRecDepth 100000 in
set_option maxHeartbeats 4000000 in
theorem w_keep {P : PO → PH → Prop} (hW : RwW 20 20 wl) (hwc : wc ≤ 20) (hpc : pc ≤ 8) (hd : 4 ≤ d) (hpt : ∀ k : Nat, k < pc → 1 ≤ pt k ∧ pt k ≤ 400) : ∀ (j made : Nat) (tl : Int) (nw pk cl cs : F_) (h : PH), made + j = 120 → RwW 40 120 cl → Gr h g wl ws wp wq op oq pt ob nw pk cl cs wc pc made pc → Gf h0 h g → (∀ k : Nat, k < pc → -1 ≤ nw k) →
    (∀ r m nw' pk' cl' cs' h', mkc wc pc wl ws wp wq op oq pt ob j made tl nw pk cl cs = ((r, m), nw', pk', cl', cs') → Gf h0 h' g → Gr h' g wl ws wp wq op oq pt ob nw' pk' cl' cs' wc pc m pc → P rV h') →
    k_Wp x d 0 0 mX1_keepCommands P 0 0 20 [some (vR g), some (vI 1)] [] h := by
  intro j
  induction j with
  | zero =>
    intro made tl nw pk cl cs h hm hWc hG hf hnw hP
    have e : (120 : Int) ≤ (made : Int) := by omega
    have hp := hP _ _ _ _ _ _ h rfl hf hG
    have g1 := hG.1
    refine p_go [] 40 ?_
    simp only [st_0, st_1, st_2, st_3, st_4, st_5, st_6, st_7, st_8, st_9, st_10, st_11, st_12, st_13, st_14, st_15, st_16, st_17, st_18, st_19, st_20, st_21, st_22, st_23, st_24, st_25, st_26, st_27, st_28, st_29, st_30, st_31, st_32, st_33, st_34, st_34a, st_35, st_36, st_37, st_38, st_39, st_42, st_44, st_45, st_47, st_40, st_41, st_46, st_48, st_49, st_43, go_0, go_s, cut_0, cut_s, get_0, get_s, put_0, put_1, put_s, clr_0, clr_s, unl_i, unl_l, unl_r, unl_n, nth_0, nth_s, sf_0, sf_s, cnd_0, cnd_1, cnd_2, cnd_3, cnd_4, cnd_5, fit_0, fit_1, fit_2, en_0, en_i, en_l, en_r, kb_t, kb_f, kb_n, sw_0, sw_s, ↓reduceIte, Nat.reduceEqDiff, Nat.left_eq_add, Nat.add_eq_left, Nat.add_left_cancel_iff, Nat.reduceAdd, Int.reduceLT, Int.reduceLE, Int.reduceAdd, Int.reduceSub, Int.reduceNeg, Int.reduceMul, Int.reduceToNat, Int.reduceEq, reduceCtorEq, true_and, and_true, true_or, or_true, and_false, false_and, or_false, false_or, not_true_eq_false, not_false_eq_true, Nat.le_refl, and_self, Sum.inl.injEq, Sum.inr.injEq, Option.some.injEq, hS_2, k_isref, pd_0, pd_s, List.cons_append, List.nil_append, Option.toList_none, Option.toList_some, tX1_keepCommands, rX1_keepCommands, g1, e]
    exact hp
  | succ j ih =>
    intro made tl nw pk cl cs h hm hWc hG hf hnw hP
    have e : ¬ (120 : Int) ≤ (made : Int) := by omega
    have e8 : (made : Int) * 8 = ((made * 8 : Nat) : Int) := by omega
    unfold mkc at hP
    have hG0 := hG
    obtain ⟨g1, gR, g4, g5, g6, g7, g8, g9, g10, g11, gC⟩ := hG
    refine p_go [] 40 ?_
    simp only [st_0, st_1, st_2, st_3, st_4, st_5, st_6, st_7, st_8, st_9, st_10, st_11, st_12, st_13, st_14, st_15, st_16, st_17, st_18, st_19, st_20, st_21, st_22, st_23, st_24, st_25, st_26, st_27, st_28, st_29, st_30, st_31, st_32, st_33, st_34, st_34a, st_35, st_36, st_37, st_38, st_39, st_42, st_44, st_45, st_47, st_40, st_41, st_46, st_48, st_49, st_43, go_0, go_s, cut_0, cut_s, get_0, get_s, put_0, put_1, put_s, clr_0, clr_s, unl_i, unl_l, unl_r, unl_n, nth_0, nth_s, sf_0, sf_s, cnd_0, cnd_1, cnd_2, cnd_3, cnd_4, cnd_5, fit_0, fit_1, fit_2, en_0, en_i, en_l, en_r, kb_t, kb_f, kb_n, sw_0, sw_s, ↓reduceIte, Nat.reduceEqDiff, Nat.left_eq_add, Nat.add_eq_left, Nat.add_left_cancel_iff, Nat.reduceAdd, Int.reduceLT, Int.reduceLE, Int.reduceAdd, Int.reduceSub, Int.reduceNeg, Int.reduceMul, Int.reduceToNat, Int.reduceEq, reduceCtorEq, true_and, and_true, true_or, or_true, and_false, false_and, or_false, false_or, not_true_eq_false, not_false_eq_true, Nat.le_refl, and_self, Sum.inl.injEq, Sum.inr.injEq, Option.some.injEq, hS_2, k_isref, pd_0, pd_s, List.cons_append, List.nil_append, Option.toList_none, Option.toList_some, tX1_keepCommands, rX1_keepCommands, g1, e, e8]
    refine ⟨⟨by omega, by omega⟩, ?_⟩
    refine p_copy (by rfl) g10 g11 ?_ ?_ ?_ ?_ ?_ (by omega) ?_ (p_go [] 40 ?_)
    · omega
    · omega
    · omega
    · omega
    · omega
    · decide
    have ec : va_cpy nw pk (0 : Int).toNat ((made * 8 : Nat) : Int).toNat (8 : Int).toNat = va_cpy nw pk 0 (made * 8) 8 := by rw [Int.toNat_natCast]; rfl
    rw [ec]
    have hG1 := hG0.pks (pk' := va_cpy nw pk 0 (made * 8) 8)
    have hf1 := hf.s (a := g + 11) (c := cI 960 (va_cpy nw pk 0 (made * 8) 8)) (by omega) (by omega)
    change k_go _ _ _ _ _ _ _ _ _ _ _ _ _ (hS h (g + 11) (cI 960 (va_cpy nw pk 0 (made * 8) 8)))
    generalize hS h (g + 11) (cI 960 (va_cpy nw pk 0 (made * 8) 8)) = h2 at hG1 hf1 ⊢
    generalize va_cpy nw pk 0 (made * 8) 8 = pk2 at hP hG1
    have k1 := hG1.1
    simp only [st_0, st_1, st_2, st_3, st_4, st_5, st_6, st_7, st_8, st_9, st_10, st_11, st_12, st_13, st_14, st_15, st_16, st_17, st_18, st_19, st_20, st_21, st_22, st_23, st_24, st_25, st_26, st_27, st_28, st_29, st_30, st_31, st_32, st_33, st_34, st_34a, st_35, st_36, st_37, st_38, st_39, st_42, st_44, st_45, st_47, st_40, st_41, st_46, st_48, st_49, st_43, go_0, go_s, cut_0, cut_s, get_0, get_s, put_0, put_1, put_s, clr_0, clr_s, unl_i, unl_l, unl_r, unl_n, nth_0, nth_s, sf_0, sf_s, cnd_0, cnd_1, cnd_2, cnd_3, cnd_4, cnd_5, fit_0, fit_1, fit_2, en_0, en_i, en_l, en_r, kb_t, kb_f, kb_n, sw_0, sw_s, ↓reduceIte, Nat.reduceEqDiff, Nat.left_eq_add, Nat.add_eq_left, Nat.add_left_cancel_iff, Nat.reduceAdd, Int.reduceLT, Int.reduceLE, Int.reduceAdd, Int.reduceSub, Int.reduceNeg, Int.reduceMul, Int.reduceToNat, Int.reduceEq, reduceCtorEq, true_and, and_true, true_or, or_true, and_false, false_and, or_false, false_or, not_true_eq_false, not_false_eq_true, Nat.le_refl, and_self, Sum.inl.injEq, Sum.inr.injEq, Option.some.injEq, hS_2, k_isref, pd_0, pd_s, List.cons_append, List.nil_append, Option.toList_none, Option.toList_some, tX1_keepCommands, rX1_keepCommands, k1]
    have hJW := jwd_W (pc := pc) (nw := nw) (wp := wp) (wq := wq) (ws := ws) (k := made) hW wc 0 0 (fS cl made 0) cs (by omega) (by omega) (hWc.set (by omega) (by omega))
    have hej := e_joinWords (x := x) (d := 3) (k := made) (by omega) k1 hG1.2.1 hW hG1.2.2.1 hG1.2.2.2.1 hG1.2.2.2.2.2.2.2.2.1 hG1.2.2.2.2.2.2.2.2.2.2 hWc hwc hpc (Nat.le_refl 3)
    generalize hjw : jwd pc nw wp wq wl ws made wc 0 0 (fS cl made 0) cs = jr at hP hJW hej
    obtain ⟨jm, jl, js⟩ := jr
    refine cV (d' := 3) [vI made] [] l_1_98 k1 hej (by omega) (p_go [] 40 ?_)
    have hG2 := hG1.cms (cl' := jl) (cs' := js)
    have hf2 := hf1.cm (cl' := jl) (cs' := js)
    change k_go _ _ _ _ _ _ _ _ _ _ _ _ _ (cmH h2 g jl js)
    generalize cmH h2 g jl js = h3 at hG2 hf2 ⊢
    simp only [st_0, st_1, st_2, st_3, st_4, st_5, st_6, st_7, st_8, st_9, st_10, st_11, st_12, st_13, st_14, st_15, st_16, st_17, st_18, st_19, st_20, st_21, st_22, st_23, st_24, st_25, st_26, st_27, st_28, st_29, st_30, st_31, st_32, st_33, st_34, st_34a, st_35, st_36, st_37, st_38, st_39, st_42, st_44, st_45, st_47, st_40, st_41, st_46, st_48, st_49, st_43, go_0, go_s, cut_0, cut_s, get_0, get_s, put_0, put_1, put_s, clr_0, clr_s, unl_i, unl_l, unl_r, unl_n, nth_0, nth_s, sf_0, sf_s, cnd_0, cnd_1, cnd_2, cnd_3, cnd_4, cnd_5, fit_0, fit_1, fit_2, en_0, en_i, en_l, en_r, kb_t, kb_f, kb_n, sw_0, sw_s, ↓reduceIte, Nat.reduceEqDiff, Nat.left_eq_add, Nat.add_eq_left, Nat.add_left_cancel_iff, Nat.reduceAdd, Int.reduceLT, Int.reduceLE, Int.reduceAdd, Int.reduceSub, Int.reduceNeg, Int.reduceMul, Int.reduceToNat, Int.reduceEq, reduceCtorEq, true_and, and_true, true_or, or_true, and_false, false_and, or_false, false_or, not_true_eq_false, not_false_eq_true, Nat.le_refl, and_self, Sum.inl.injEq, Sum.inr.injEq, Option.some.injEq, hS_2, k_isref, pd_0, pd_s, List.cons_append, List.nil_append, Option.toList_none, Option.toList_some, tX1_keepCommands, rX1_keepCommands]
    refine cVQ (d' := 3) (P' := fun o h' => (stp pc op oq pt ob nw pc = none ∧ o = rI 0 ∧ h' = h3) ∨ ∃ nw', stp pc op oq pt ob nw pc = some nw' ∧ o = rI 1 ∧ h' = hS h3 (g + 10) (cI 8 nw')) [] [] l_1_88 hG2.1 (e_step hG2.1 hG2.2.2.2.2.1 hG2.2.2.2.2.2.1 hG2.2.2.2.2.2.2.1 hG2.2.2.2.2.2.2.2.1 hG2.2.2.2.2.2.2.2.2.1 hpc (Nat.le_refl 3) hpt hnw (fun c => Or.inl ⟨c, rfl, rfl⟩) (fun nw' c => Or.inr ⟨nw', c, rfl, rfl⟩)) (by omega) ?_ (fun E h' q => by rcases q with ⟨_, q, _⟩ | ⟨_, _, q, _⟩ <;> cases q)
    intro r2 hr2 q
    rcases q with ⟨c, q1, q2⟩ | ⟨nw', c, q1, q2⟩
    · cases q1
      subst q2
      rw [c] at hP
      have n1 := hG2.1
      have hG3 := hG2.cell (wc' := wc) (pc' := pc) (sz' := made + 1) (pn' := pc)
      have hf3 := hf2.s (a := g) (c := gD g wc pc (made + 1) pc) (by omega) (by omega)
      have hp := hP _ _ _ _ _ _ _ rfl hf3 hG3
      have m1 := hG3.1
      refine p_go [20] 40 ?_
      simp only [st_0, st_1, st_2, st_3, st_4, st_5, st_6, st_7, st_8, st_9, st_10, st_11, st_12, st_13, st_14, st_15, st_16, st_17, st_18, st_19, st_20, st_21, st_22, st_23, st_24, st_25, st_26, st_27, st_28, st_29, st_30, st_31, st_32, st_33, st_34, st_34a, st_35, st_36, st_37, st_38, st_39, st_42, st_44, st_45, st_47, st_40, st_41, st_46, st_48, st_49, st_43, go_0, go_s, cut_0, cut_s, get_0, get_s, put_0, put_1, put_s, clr_0, clr_s, unl_i, unl_l, unl_r, unl_n, nth_0, nth_s, sf_0, sf_s, cnd_0, cnd_1, cnd_2, cnd_3, cnd_4, cnd_5, fit_0, fit_1, fit_2, en_0, en_i, en_l, en_r, kb_t, kb_f, kb_n, sw_0, sw_s, ↓reduceIte, Nat.reduceEqDiff, Nat.left_eq_add, Nat.add_eq_left, Nat.add_left_cancel_iff, Nat.reduceAdd, Int.reduceLT, Int.reduceLE, Int.reduceAdd, Int.reduceSub, Int.reduceNeg, Int.reduceMul, Int.reduceToNat, Int.reduceEq, reduceCtorEq, true_and, and_true, true_or, or_true, and_false, false_and, or_false, false_or, not_true_eq_false, not_false_eq_true, Nat.le_refl, and_self, Sum.inl.injEq, Sum.inr.injEq, Option.some.injEq, hS_2, k_isref, pd_0, pd_s, List.cons_append, List.nil_append, Option.toList_none, Option.toList_some, tX1_keepCommands, rX1_keepCommands, n1, nat1]
      refine ⟨⟨by omega, by omega⟩, ?_⟩
      change k_Wp _ _ _ _ _ _ _ _ _ _ _ (hS hr2 g (gD g wc pc (made + 1) pc))
      generalize hS hr2 g (gD g wc pc (made + 1) pc) = h4 at hp m1 ⊢
      refine p_go [] 40 ?_
      simp only [st_0, st_1, st_2, st_3, st_4, st_5, st_6, st_7, st_8, st_9, st_10, st_11, st_12, st_13, st_14, st_15, st_16, st_17, st_18, st_19, st_20, st_21, st_22, st_23, st_24, st_25, st_26, st_27, st_28, st_29, st_30, st_31, st_32, st_33, st_34, st_34a, st_35, st_36, st_37, st_38, st_39, st_42, st_44, st_45, st_47, st_40, st_41, st_46, st_48, st_49, st_43, go_0, go_s, cut_0, cut_s, get_0, get_s, put_0, put_1, put_s, clr_0, clr_s, unl_i, unl_l, unl_r, unl_n, nth_0, nth_s, sf_0, sf_s, cnd_0, cnd_1, cnd_2, cnd_3, cnd_4, cnd_5, fit_0, fit_1, fit_2, en_0, en_i, en_l, en_r, kb_t, kb_f, kb_n, sw_0, sw_s, ↓reduceIte, Nat.reduceEqDiff, Nat.left_eq_add, Nat.add_eq_left, Nat.add_left_cancel_iff, Nat.reduceAdd, Int.reduceLT, Int.reduceLE, Int.reduceAdd, Int.reduceSub, Int.reduceNeg, Int.reduceMul, Int.reduceToNat, Int.reduceEq, reduceCtorEq, true_and, and_true, true_or, or_true, and_false, false_and, or_false, false_or, not_true_eq_false, not_false_eq_true, Nat.le_refl, and_self, Sum.inl.injEq, Sum.inr.injEq, Option.some.injEq, hS_2, k_isref, pd_0, pd_s, List.cons_append, List.nil_append, Option.toList_none, Option.toList_some, tX1_keepCommands, rX1_keepCommands, m1]
      exact k_brI (fun _ => hp) (fun _ => hp)
    · cases q1
      subst q2
      rw [c] at hP
      have hG3 := (hG2.now (nw' := nw')).cell (wc' := wc) (pc' := pc) (sz' := made + 1) (pn' := pc)
      have hf3 := (hf2.s (a := g + 10) (c := cI 8 nw') (by omega) (by omega)).s (a := g) (c := gD g wc pc (made + 1) pc) (by omega) (by omega)
      have n1 := hG2.1
      refine p_go [20] 40 ?_
      simp only [st_0, st_1, st_2, st_3, st_4, st_5, st_6, st_7, st_8, st_9, st_10, st_11, st_12, st_13, st_14, st_15, st_16, st_17, st_18, st_19, st_20, st_21, st_22, st_23, st_24, st_25, st_26, st_27, st_28, st_29, st_30, st_31, st_32, st_33, st_34, st_34a, st_35, st_36, st_37, st_38, st_39, st_42, st_44, st_45, st_47, st_40, st_41, st_46, st_48, st_49, st_43, go_0, go_s, cut_0, cut_s, get_0, get_s, put_0, put_1, put_s, clr_0, clr_s, unl_i, unl_l, unl_r, unl_n, nth_0, nth_s, sf_0, sf_s, cnd_0, cnd_1, cnd_2, cnd_3, cnd_4, cnd_5, fit_0, fit_1, fit_2, en_0, en_i, en_l, en_r, kb_t, kb_f, kb_n, sw_0, sw_s, ↓reduceIte, Nat.reduceEqDiff, Nat.left_eq_add, Nat.add_eq_left, Nat.add_left_cancel_iff, Nat.reduceAdd, Int.reduceLT, Int.reduceLE, Int.reduceAdd, Int.reduceSub, Int.reduceNeg, Int.reduceMul, Int.reduceToNat, Int.reduceEq, reduceCtorEq, true_and, and_true, true_or, or_true, and_false, false_and, or_false, false_or, not_true_eq_false, not_false_eq_true, Nat.le_refl, and_self, Sum.inl.injEq, Sum.inr.injEq, Option.some.injEq, hS_2, k_isref, pd_0, pd_s, List.cons_append, List.nil_append, Option.toList_none, Option.toList_some, tX1_keepCommands, rX1_keepCommands, n1, nat1]
      refine ⟨⟨by omega, by omega⟩, ?_⟩
      exact ih (made + 1) _ nw' pk2 jl js _ (by omega) hJW hG3 hf3 (stp_b hnw pc (Nat.le_refl _) nw' c) hP
/-- what the commands of a draft are -/
def mkA (wc pc : Nat) (wl ws wp wq op oq pt ob nw pk cl cs : F_) : (Int × Nat) × F_ × F_ × F_ × F_ := mkc wc pc wl ws wp wq op oq pt ob 120 0 0 (stl pc op oq pc 0 nw) pk cl cs
set_option maxRecDepth 100000 in
set_option maxHeartbeats 4000000 in
theorem e_keep {P : PO → PH → Prop} (hG : Gr h g wl ws wp wq op oq pt ob nw pk cl cs wc pc sz pn) (hW : RwW 20 20 wl) (hWc : RwW 40 120 cl) (hwc : wc ≤ 20) (hpc : pc ≤ 8) (hd : 4 ≤ d) (hpt : ∀ k : Nat, k < pc → 1 ≤ pt k ∧ pt k ≤ 400)
    (hP : ∀ r m nw' pk' cl' cs' h', mkA wc pc wl ws wp wq op oq pt ob nw pk cl cs = ((r, m), nw', pk', cl', cs') → Gf h h' g → Gr h' g wl ws wp wq op oq pt ob nw' pk' cl' cs' wc pc m pc → P rV h') :
    k_Ev x d 0 0 mX1_keepCommands [vR g] h P := by
  have g1 := hG.1
  have hG1 := hG.cell (wc' := wc) (pc' := pc) (sz' := sz) (pn' := pc)
  have hf1 : Gf h (hS h g (gD g wc pc sz pc)) g := Gf.s ⟨rfl, fun _ _ => rfl⟩ (by omega) (by omega)
  refine k_enp 1 (Nat.le_of_ble_eq_true rfl) (p_go [] 40 ?_)
  simp only [st_0, st_1, st_2, st_3, st_4, st_5, st_6, st_7, st_8, st_9, st_10, st_11, st_12, st_13, st_14, st_15, st_16, st_17, st_18, st_19, st_20, st_21, st_22, st_23, st_24, st_25, st_26, st_27, st_28, st_29, st_30, st_31, st_32, st_33, st_34, st_34a, st_35, st_36, st_37, st_38, st_39, st_42, st_44, st_45, st_47, st_40, st_41, st_46, st_48, st_49, st_43, go_0, go_s, cut_0, cut_s, get_0, get_s, put_0, put_1, put_s, clr_0, clr_s, unl_i, unl_l, unl_r, unl_n, nth_0, nth_s, sf_0, sf_s, cnd_0, cnd_1, cnd_2, cnd_3, cnd_4, cnd_5, fit_0, fit_1, fit_2, en_0, en_i, en_l, en_r, kb_t, kb_f, kb_n, sw_0, sw_s, ↓reduceIte, Nat.reduceEqDiff, Nat.left_eq_add, Nat.add_eq_left, Nat.add_left_cancel_iff, Nat.reduceAdd, Int.reduceLT, Int.reduceLE, Int.reduceAdd, Int.reduceSub, Int.reduceNeg, Int.reduceMul, Int.reduceToNat, Int.reduceEq, reduceCtorEq, true_and, and_true, true_or, or_true, and_false, false_and, or_false, false_or, not_true_eq_false, not_false_eq_true, Nat.le_refl, and_self, Sum.inl.injEq, Sum.inr.injEq, Option.some.injEq, hS_2, k_isref, pd_0, pd_s, List.cons_append, List.nil_append, Option.toList_none, Option.toList_some, tX1_keepCommands, rX1_keepCommands, g1]
  change k_Wp _ _ _ _ _ _ _ _ _ _ _ (hS h g (gD g wc pc sz pc))
  generalize hS h g (gD g wc pc sz pc) = h1 at hG1 hf1 ⊢
  refine cV (d' := 2) [vI ((0 : Nat) : Int)] [] l_1_81 hG1.1 (e_settle hG1.1 hG1.2.2.2.2.1 hG1.2.2.2.2.2.1 hG1.2.2.2.2.2.2.2.2.1 hpc (by omega) (Nat.le_refl 2)) (by omega) (p_go [20] 40 ?_)
  have hG2 := hG1.now (nw' := stl pc op oq (pc - 0) 0 nw)
  have hf2 := hf1.s (a := g + 10) (c := cI 8 (stl pc op oq (pc - 0) 0 nw)) (by omega) (by omega)
  generalize hS h1 (g + 10) (cI 8 (stl pc op oq (pc - 0) 0 nw)) = h2 at hG2 hf2 ⊢
  have k1 := hG2.1
  simp only [st_0, st_1, st_2, st_3, st_4, st_5, st_6, st_7, st_8, st_9, st_10, st_11, st_12, st_13, st_14, st_15, st_16, st_17, st_18, st_19, st_20, st_21, st_22, st_23, st_24, st_25, st_26, st_27, st_28, st_29, st_30, st_31, st_32, st_33, st_34, st_34a, st_35, st_36, st_37, st_38, st_39, st_42, st_44, st_45, st_47, st_40, st_41, st_46, st_48, st_49, st_43, go_0, go_s, cut_0, cut_s, get_0, get_s, put_0, put_1, put_s, clr_0, clr_s, unl_i, unl_l, unl_r, unl_n, nth_0, nth_s, sf_0, sf_s, cnd_0, cnd_1, cnd_2, cnd_3, cnd_4, cnd_5, fit_0, fit_1, fit_2, en_0, en_i, en_l, en_r, kb_t, kb_f, kb_n, sw_0, sw_s, ↓reduceIte, Nat.reduceEqDiff, Nat.left_eq_add, Nat.add_eq_left, Nat.add_left_cancel_iff, Nat.reduceAdd, Int.reduceLT, Int.reduceLE, Int.reduceAdd, Int.reduceSub, Int.reduceNeg, Int.reduceMul, Int.reduceToNat, Int.reduceEq, reduceCtorEq, true_and, and_true, true_or, or_true, and_false, false_and, or_false, false_or, not_true_eq_false, not_false_eq_true, Nat.le_refl, and_self, Sum.inl.injEq, Sum.inr.injEq, Option.some.injEq, hS_2, k_isref, pd_0, pd_s, List.cons_append, List.nil_append, Option.toList_none, Option.toList_some, tX1_keepCommands, rX1_keepCommands, k1]
  exact w_keep hW hwc hpc hd hpt 120 0 0 _ pk cl cs _ (by omega) hWc (hG2.cell (wc' := wc) (pc' := pc) (sz' := 0) (pn' := pc)) (hf2.s (by omega) (by omega)) (fun k hk => (stl_hi pc 0 nw k (by omega) (by omega)).1) hP
theorem mkA_ag {nw' : F_} (hop : ∀ k : Nat, k < pc → op k < k) (hn : ∀ k, pc ≤ k → nw' k = nw k) : mkA wc pc wl ws wp wq op oq pt ob nw' pk cl cs = mkA wc pc wl ws wp wq op oq pt ob nw pk cl cs := by
  unfold mkA
  rw [stl_ag hop pc 0 nw' nw (by omega) (fun k hk => by omega) hn]
set_option maxRecDepth 100000 in
set_option maxHeartbeats 4000000 in
theorem e_gtake {P : PO → PH → Prop} (hG : Gr h g wl ws wp wq op oq pt ob nw pk cl cs wc pc sz pn) (hW : RwW 20 20 wl) (hWc : RwW 40 120 cl) (hwc : wc ≤ 20) (hpc : pc ≤ 8) (hd : 5 ≤ d) (hpt : ∀ k : Nat, k < pc → 1 ≤ pt k ∧ pt k ≤ 400) (hop : ∀ k : Nat, k < pc → op k < k)
    (c1 : (mkA wc pc wl ws wp wq op oq pt ob nw pk cl cs).1.1 ≠ 0 → ∀ h' nw', Gf h h' g → Gr h' g wl ws wp wq op oq pt ob nw' pk cl cs wc pc sz pn → P (rI (mkA wc pc wl ws wp wq op oq pt ob nw pk cl cs).1.1) h')
    (c2 : (mkA wc pc wl ws wp wq op oq pt ob nw pk cl cs).1.1 = 0 → ∀ h', Gf h h' g → Gr h' g wl ws wp wq op oq pt ob (mkA wc pc wl ws wp wq op oq pt ob nw pk cl cs).2.1 (mkA wc pc wl ws wp wq op oq pt ob nw pk cl cs).2.2.1 (mkA wc pc wl ws wp wq op oq pt ob nw pk cl cs).2.2.2.1 (mkA wc pc wl ws wp wq op oq pt ob nw pk cl cs).2.2.2.2 wc pc (mkA wc pc wl ws wp wq op oq pt ob nw pk cl cs).1.2 pc → P (rI 0) h') :
    k_Ev x d 0 0 mX1_takeCommands [vR g] h P := by
  have hF : (mkA wc pc wl ws wp wq op oq pt ob nw pk cl cs).1.1 = (flt wc pc wl wp wq op oq pt ob 120 0 (stl pc op oq pc 0 nw)).1 := mkc_flt _ _ _ _ _ _ _
  have hU : ∀ k, pc ≤ k → (flt wc pc wl wp wq op oq pt ob 120 0 (stl pc op oq pc 0 nw)).2 k = nw k := fun k hk => (flt_up hk _ _ _).trans (stl_up _ _ _ (by omega))
  have hev := e_flt (x := x) (d := 4) (P := fun o h' => o = rI (flt wc pc wl wp wq op oq pt ob 120 0 (stl pc op oq pc 0 nw)).1 ∧ Gf h h' g ∧ Gr h' g wl ws wp wq op oq pt ob (flt wc pc wl wp wq op oq pt ob 120 0 (stl pc op oq pc 0 nw)).2 pk cl cs wc pc sz pn) hG hW hwc hpc (Nat.le_refl 4) hpt (fun h' a b => ⟨rfl, a, b⟩)
  rw [hF] at c1 c2
  clear hF
  generalize flt wc pc wl wp wq op oq pt ob 120 0 (stl pc op oq pc 0 nw) = F at c1 c2 hU hev
  refine k_enp 1 (Nat.le_of_ble_eq_true rfl) (p_go [] 40 ?_)
  simp only [st_0, st_1, st_2, st_3, st_4, st_5, st_6, st_7, st_8, st_9, st_10, st_11, st_12, st_13, st_14, st_15, st_16, st_17, st_18, st_19, st_20, st_21, st_22, st_23, st_24, st_25, st_26, st_27, st_28, st_29, st_30, st_31, st_32, st_33, st_34, st_34a, st_35, st_36, st_37, st_38, st_39, st_42, st_44, st_45, st_47, st_40, st_41, st_46, st_48, st_49, st_43, go_0, go_s, cut_0, cut_s, get_0, get_s, put_0, put_1, put_s, clr_0, clr_s, unl_i, unl_l, unl_r, unl_n, nth_0, nth_s, sf_0, sf_s, cnd_0, cnd_1, cnd_2, cnd_3, cnd_4, cnd_5, fit_0, fit_1, fit_2, en_0, en_i, en_l, en_r, kb_t, kb_f, kb_n, sw_0, sw_s, ↓reduceIte, Nat.reduceEqDiff, Nat.left_eq_add, Nat.add_eq_left, Nat.add_left_cancel_iff, Nat.reduceAdd, Int.reduceLT, Int.reduceLE, Int.reduceAdd, Int.reduceSub, Int.reduceNeg, Int.reduceMul, Int.reduceToNat, Int.reduceEq, reduceCtorEq, true_and, and_true, true_or, or_true, and_false, false_and, or_false, false_or, not_true_eq_false, not_false_eq_true, Nat.le_refl, and_self, Sum.inl.injEq, Sum.inr.injEq, Option.some.injEq, hS_2, k_isref, pd_0, pd_s, List.cons_append, List.nil_append, Option.toList_none, Option.toList_some, tX1_takeCommands, rX1_takeCommands]
  refine cVQ (d' := 4) [] [] l_1_74 hG.1 hev (by omega) ?_ (fun E h' q => by cases q.1)
  intro r1 h1 ⟨q1, qf, qG⟩
  cases q1
  refine p_go [] 40 ?_
  by_cases hz : F.1 = 0
  · simp only [st_0, st_1, st_2, st_3, st_4, st_5, st_6, st_7, st_8, st_9, st_10, st_11, st_12, st_13, st_14, st_15, st_16, st_17, st_18, st_19, st_20, st_21, st_22, st_23, st_24, st_25, st_26, st_27, st_28, st_29, st_30, st_31, st_32, st_33, st_34, st_34a, st_35, st_36, st_37, st_38, st_39, st_42, st_44, st_45, st_47, st_40, st_41, st_46, st_48, st_49, st_43, go_0, go_s, cut_0, cut_s, get_0, get_s, put_0, put_1, put_s, clr_0, clr_s, unl_i, unl_l, unl_r, unl_n, nth_0, nth_s, sf_0, sf_s, cnd_0, cnd_1, cnd_2, cnd_3, cnd_4, cnd_5, fit_0, fit_1, fit_2, en_0, en_i, en_l, en_r, kb_t, kb_f, kb_n, sw_0, sw_s, ↓reduceIte, Nat.reduceEqDiff, Nat.left_eq_add, Nat.add_eq_left, Nat.add_left_cancel_iff, Nat.reduceAdd, Int.reduceLT, Int.reduceLE, Int.reduceAdd, Int.reduceSub, Int.reduceNeg, Int.reduceMul, Int.reduceToNat, Int.reduceEq, reduceCtorEq, true_and, and_true, true_or, or_true, and_false, false_and, or_false, false_or, not_true_eq_false, not_false_eq_true, Nat.le_refl, and_self, Sum.inl.injEq, Sum.inr.injEq, Option.some.injEq, hS_2, k_isref, pd_0, pd_s, List.cons_append, List.nil_append, Option.toList_none, Option.toList_some, tX1_takeCommands, rX1_takeCommands, hz]
    refine cVQ (d' := 4) (P' := fun o h' => o = rV ∧ Gf h1 h' g ∧ Gr h' g wl ws wp wq op oq pt ob (mkA wc pc wl ws wp wq op oq pt ob nw pk cl cs).2.1 (mkA wc pc wl ws wp wq op oq pt ob nw pk cl cs).2.2.1 (mkA wc pc wl ws wp wq op oq pt ob nw pk cl cs).2.2.2.1 (mkA wc pc wl ws wp wq op oq pt ob nw pk cl cs).2.2.2.2 wc pc (mkA wc pc wl ws wp wq op oq pt ob nw pk cl cs).1.2 pc) [] [] l_1_78 qG.1 (e_keep qG hW hWc hwc hpc (Nat.le_refl 4) hpt (fun r m nw' pk' cl' cs' h' hm a b => by rw [mkA_ag hop hU] at hm; rw [hm]; exact ⟨rfl, a, b⟩)) (by omega) ?_ (fun E h' q => by cases q.1)
    intro r2 h2 ⟨u1, uf, uG⟩
    cases u1
    refine p_go [] 40 ?_
    simp only [st_0, st_1, st_2, st_3, st_4, st_5, st_6, st_7, st_8, st_9, st_10, st_11, st_12, st_13, st_14, st_15, st_16, st_17, st_18, st_19, st_20, st_21, st_22, st_23, st_24, st_25, st_26, st_27, st_28, st_29, st_30, st_31, st_32, st_33, st_34, st_34a, st_35, st_36, st_37, st_38, st_39, st_42, st_44, st_45, st_47, st_40, st_41, st_46, st_48, st_49, st_43, go_0, go_s, cut_0, cut_s, get_0, get_s, put_0, put_1, put_s, clr_0, clr_s, unl_i, unl_l, unl_r, unl_n, nth_0, nth_s, sf_0, sf_s, cnd_0, cnd_1, cnd_2, cnd_3, cnd_4, cnd_5, fit_0, fit_1, fit_2, en_0, en_i, en_l, en_r, kb_t, kb_f, kb_n, sw_0, sw_s, ↓reduceIte, Nat.reduceEqDiff, Nat.left_eq_add, Nat.add_eq_left, Nat.add_left_cancel_iff, Nat.reduceAdd, Int.reduceLT, Int.reduceLE, Int.reduceAdd, Int.reduceSub, Int.reduceNeg, Int.reduceMul, Int.reduceToNat, Int.reduceEq, reduceCtorEq, true_and, and_true, true_or, or_true, and_false, false_and, or_false, false_or, not_true_eq_false, not_false_eq_true, Nat.le_refl, and_self, Sum.inl.injEq, Sum.inr.injEq, Option.some.injEq, hS_2, k_isref, pd_0, pd_s, List.cons_append, List.nil_append, Option.toList_none, Option.toList_some, tX1_takeCommands, rX1_takeCommands, hz]
    exact c2 hz h2 ⟨uf.1.trans qf.1, fun z hz => (uf.2 z hz).trans (qf.2 z hz)⟩ uG
  · simp only [st_0, st_1, st_2, st_3, st_4, st_5, st_6, st_7, st_8, st_9, st_10, st_11, st_12, st_13, st_14, st_15, st_16, st_17, st_18, st_19, st_20, st_21, st_22, st_23, st_24, st_25, st_26, st_27, st_28, st_29, st_30, st_31, st_32, st_33, st_34, st_34a, st_35, st_36, st_37, st_38, st_39, st_42, st_44, st_45, st_47, st_40, st_41, st_46, st_48, st_49, st_43, go_0, go_s, cut_0, cut_s, get_0, get_s, put_0, put_1, put_s, clr_0, clr_s, unl_i, unl_l, unl_r, unl_n, nth_0, nth_s, sf_0, sf_s, cnd_0, cnd_1, cnd_2, cnd_3, cnd_4, cnd_5, fit_0, fit_1, fit_2, en_0, en_i, en_l, en_r, kb_t, kb_f, kb_n, sw_0, sw_s, ↓reduceIte, Nat.reduceEqDiff, Nat.left_eq_add, Nat.add_eq_left, Nat.add_left_cancel_iff, Nat.reduceAdd, Int.reduceLT, Int.reduceLE, Int.reduceAdd, Int.reduceSub, Int.reduceNeg, Int.reduceMul, Int.reduceToNat, Int.reduceEq, reduceCtorEq, true_and, and_true, true_or, or_true, and_false, false_and, or_false, false_or, not_true_eq_false, not_false_eq_true, Nat.le_refl, and_self, Sum.inl.injEq, Sum.inr.injEq, Option.some.injEq, hS_2, k_isref, pd_0, pd_s, List.cons_append, List.nil_append, Option.toList_none, Option.toList_some, tX1_takeCommands, rX1_takeCommands, hz]
    exact c1 hz h1 F.2 qf qG
end Gram32
