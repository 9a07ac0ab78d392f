/-! Parser.parse: the loop -/
section Parse37
variable {x : Bool} {d : Nat} {h0 h : PH} {a p g r sz pn rc t q q2 : Nat} {nw pk cl cs f : F_} {R E : LxT}
def prT (R E : LxT) (f : F_) (en rc : Nat) (S : PS) : Int × PS := if rc < bhd f (en - rc) rc then tkSpell R E f rc (bhd f (en - rc) rc) S else tkSign (f rc) S
def prs (R E : LxT) (f : F_) (en : Nat) : Nat → Nat → PS → Int × Nat × PS
  | 0, rc, S => (0, rc, S)
  | j + 1, rc, S => if en ≤ rc then (0, rc, S) else if (prT R E f en rc S).1 ≠ 0 then ((prT R E f en rc S).1, rc, (prT R E f en rc S).2) else prs R E f en j (max (bhd f (en - rc) rc) (rc + 1)) (prT R E f en rc S).2
abbrev mkS (S : PS) (nw pk cl cs : F_) : (Int × Nat) × F_ × F_ × F_ × F_ := mkA S.2.1.1 S.2.1.2 S.2.2.1.1 S.2.2.1.2.1 S.2.2.1.2.2.1 S.2.2.1.2.2.2 S.2.2.2.1.1 S.2.2.2.1.2.1 S.2.2.2.1.2.2.1 S.2.2.2.1.2.2.2 nw pk cl cs
/-- a parse's end: the answer, the place, how many commands, the grammar -/
def prF (nw pk cl cs : F_) (T : Int × Nat × PS) : Int × (Nat × Nat) × PS × (F_ × F_ × F_ × F_) :=
  if T.1 ≠ 0 then (T.1, (T.2.1, 0), T.2.2, (nw, pk, cl, cs)) else if T.2.2.1.2 = 1 ∨ T.2.2.1.1 ≠ -1 then (1, (T.2.1, 0), T.2.2, (nw, pk, cl, cs))
  else ((mkS T.2.2 nw pk cl cs).1.1, (T.2.1, if (mkS T.2.2 nw pk cl cs).1.1 = 5 then 0 else (mkS T.2.2 nw pk cl cs).1.2), T.2.2, (mkS T.2.2 nw pk cl cs).2)
/-- the parser's own answer -/
def prE (T : Int × Nat × PS) : Int := if T.1 ≠ 0 then T.1 else if T.2.2.1.2 = 1 ∨ T.2.2.1.1 ≠ -1 then 1 else 0
abbrev PrP (h0 : PH) (a p g r sz pn : Nat) (nw pk cl cs : F_) (T : Int × Nat × PS) : PO → PH → Prop := fun o h' => o = rI (prE T) ∧ Ps h0 h' a p g r sz pn T.2.1 nw pk cl cs T.2.2 ∧ psI 400 T.2.2
theorem Ps.rch {S : PS} {rc' : Nat} (hra : r + 2 < a) (hag : a < g) (hS1 : Ps h0 h a p g r sz pn rc nw pk cl cs S) : Ps h0 (hS h a (prO p S.1.1 S.1.2 rc')) a p g r sz pn rc' nw pk cl cs S := by
  obtain ⟨s1, s2, s3, ⟨g1, gR, g4, g5, g6, g7, g8, g9, g10, g11, gC⟩, s5, s6⟩ := hS1
  refine ⟨s1, fun z z1 z2 z3 z4 => (hS_n z1).trans (s2 z z1 z2 z3 z4), hS_s _ _ _, ⟨?_, ⟨?_, ?_, ?_⟩, ?_, ?_, ?_, ?_, ?_, ?_, ?_, ?_, ⟨?_, ?_, ?_⟩⟩, (hS_n (by omega)).trans s5, (hS_n (by omega)).trans s6⟩
  all_goals refine (hS_n (by omega)).trans ?_
  · exact g1
  · exact gR.1
  · exact gR.2.1
  · exact gR.2.2
  · exact g4
  · exact g5
  · exact g6
  · exact g7
  · exact g8
  · exact g9
  · exact g10
  · exact g11
  · exact gC.1
  · exact gC.2.1
  · exact gC.2.2
set_option maxRecDepth 100000 in
set_option maxHeartbeats 4000000 in
theorem w_parse {nn : Int} {en : Nat} (hE : Env h0 t p q q2 r f R E) (hEI : EnvI R E) (hO : EnvO t p q q2 r) (hen : en ≤ 400) (hra : r + 2 < a) (hag : a < g) (hd : 5 ≤ d) : ∀ (j rc : Nat) (S : PS) (h : PH), en - rc < j → rc ≤ en → Ps h0 h a p g r sz pn rc nw pk cl cs S → psI rc S →
    k_Wp x d 0 0 mX6_parse (PrP h0 a p g r sz pn nw pk cl cs (prs R E f en j rc S)) 0 0 27 [some (vR a), some (vR t), some (vI nn), some (vR g), some (vI en), none, none] [] h := by
  intro j
  induction j with
  | zero => intro rc S h h1; omega
  | succ j ih =>
    intro rc S h hj hrc hS1 hI
    have hS2 := hS1
    obtain ⟨s1, s2, s3, s4, s5, s6⟩ := hS1
    unfold prs
    by_cases hc : en ≤ rc
    · rw [if_pos hc]
      have e : (en : Int) ≤ rc := by omega
      refine p_go [] 40 ?_
      simp only [st_0, st_1, st_2, st_3, st_4, st_5, st_6, st_7, st_8, st_9, st_10, st_11, st_12, st_13, st_14, st_15, st_16, st_17, st_18, st_19, st_20, st_21, st_22, st_23, st_24, st_25, st_26, st_27, st_28, st_29, st_30, st_31, st_32, st_33, st_34, st_34a, st_35, st_36, st_37, st_38, st_39, st_42, st_44, st_45, st_47, st_40, st_41, st_46, st_48, st_49, st_43, go_0, go_s, cut_0, cut_s, get_0, get_s, put_0, put_1, put_s, clr_0, clr_s, unl_i, unl_l, unl_r, unl_n, nth_0, nth_s, sf_0, sf_s, cnd_0, cnd_1, cnd_2, cnd_3, cnd_4, cnd_5, fit_0, fit_1, fit_2, en_0, en_i, en_l, en_r, kb_t, kb_f, kb_n, sw_0, sw_s, ↓reduceIte, Nat.reduceEqDiff, Nat.left_eq_add, Nat.add_eq_left, Nat.add_left_cancel_iff, Nat.reduceAdd, Int.reduceLT, Int.reduceLE, Int.reduceAdd, Int.reduceSub, Int.reduceNeg, Int.reduceMul, Int.reduceToNat, Int.reduceEq, reduceCtorEq, true_and, and_true, true_or, or_true, and_false, false_and, or_false, false_or, not_true_eq_false, not_false_eq_true, Nat.le_refl, and_self, Sum.inl.injEq, Sum.inr.injEq, Option.some.injEq, hS_2, k_isref, pd_0, pd_s, List.cons_append, List.nil_append, Option.toList_none, Option.toList_some, tX6_parse, rX6_parse, s3, e]
      unfold PrP prE
      simp only [ne_eq, not_true_eq_false, if_false]
      have hI4 : psI 400 S := hI.mono (by omega)
      obtain ⟨i1, i2, i3, i4, i5, i6, i7, i8, i9⟩ := hI
      refine k_brI (fun c1 => k_brI (fun c2 => ?_) (fun c2 => ?_)) (fun c1 => ?_)
      · rw [if_neg (by omega)]
        exact ⟨rfl, hS2, hI4⟩
      · rw [if_pos (by omega)]
        exact ⟨rfl, hS2, hI4⟩
      · rw [if_pos (by omega)]
        exact ⟨rfl, hS2, hI4⟩
    · rw [if_neg hc]
      have e : ¬ (en : Int) ≤ rc := by omega
      have hEh : Env h t p q q2 r f R E := hE.fr (fun z hz => s2 z (by omega) (by omega) (by omega) (by omega)) hO
      obtain ⟨b1, b2, b3⟩ := bhd_b f (en - rc) rc
      refine p_go [] 40 ?_
      simp only [st_0, st_1, st_2, st_3, st_4, st_5, st_6, st_7, st_8, st_9, st_10, st_11, st_12, st_13, st_14, st_15, st_16, st_17, st_18, st_19, st_20, st_21, st_22, st_23, st_24, st_25, st_26, st_27, st_28, st_29, st_30, st_31, st_32, st_33, st_34, st_34a, st_35, st_36, st_37, st_38, st_39, st_42, st_44, st_45, st_47, st_40, st_41, st_46, st_48, st_49, st_43, go_0, go_s, cut_0, cut_s, get_0, get_s, put_0, put_1, put_s, clr_0, clr_s, unl_i, unl_l, unl_r, unl_n, nth_0, nth_s, sf_0, sf_s, cnd_0, cnd_1, cnd_2, cnd_3, cnd_4, cnd_5, fit_0, fit_1, fit_2, en_0, en_i, en_l, en_r, kb_t, kb_f, kb_n, sw_0, sw_s, ↓reduceIte, Nat.reduceEqDiff, Nat.left_eq_add, Nat.add_eq_left, Nat.add_left_cancel_iff, Nat.reduceAdd, Int.reduceLT, Int.reduceLE, Int.reduceAdd, Int.reduceSub, Int.reduceNeg, Int.reduceMul, Int.reduceToNat, Int.reduceEq, reduceCtorEq, true_and, and_true, true_or, or_true, and_false, false_and, or_false, false_or, not_true_eq_false, not_false_eq_true, Nat.le_refl, and_self, Sum.inl.injEq, Sum.inr.injEq, Option.some.injEq, hS_2, k_isref, pd_0, pd_s, List.cons_append, List.nil_append, Option.toList_none, Option.toList_some, tX6_parse, rX6_parse, s3, e]
      refine cS (d' := 1) [vR t, vI rc, vI en] [] l_6_37 (e_behind hEh.2.2.2.1 (Nat.le_refl 1) hen hrc) (by omega) (p_go [] 40 ?_)
      have hgo : ∀ (T : Int × PS) (h1 : PH), T = prT R E f en rc S → Ps h0 h1 a p g r sz pn rc nw pk cl cs T.2 → psI (max (bhd f (en - rc) rc) (rc + 1)) T.2 → k_Wp x d 0 0 mX6_parse (PrP h0 a p g r sz pn nw pk cl cs (if (prT R E f en rc S).1 ≠ 0 then ((prT R E f en rc S).1, rc, (prT R E f en rc S).2) else prs R E f en j (max (bhd f (en - rc) rc) (rc + 1)) (prT R E f en rc S).2)) 0 0 79 [some (vR a), some (vR t), some (vI nn), some (vR g), some (vI en), some (vI (bhd f (en - rc) rc : Nat)), none] [vI T.1] h1 := by
        intro T h1 hT hP1 hI1
        rw [← hT]
        have u3 := hP1.2.2.1
        refine p_go [27] 40 ?_
        by_cases hz : T.1 = 0
        · rw [if_neg (fun q => q hz)]
          have e5 : (if ((bhd f (en - rc) rc : Nat) : Int) < ((rc + 1 : Nat) : Int) then ((rc + 1 : Nat) : Int) else ((bhd f (en - rc) rc : Nat) : Int)) = ((max (bhd f (en - rc) rc) (rc + 1) : Nat) : Int) := by split <;> omega
          simp only [st_0, st_1, st_2, st_3, st_4, st_5, st_6, st_7, st_8, st_9, st_10, st_11, st_12, st_13, st_14, st_15, st_16, st_17, st_18, st_19, st_20, st_21, st_22, st_23, st_24, st_25, st_26, st_27, st_28, st_29, st_30, st_31, st_32, st_33, st_34, st_34a, st_35, st_36, st_37, st_38, st_39, st_42, st_44, st_45, st_47, st_40, st_41, st_46, st_48, st_49, st_43, go_0, go_s, cut_0, cut_s, get_0, get_s, put_0, put_1, put_s, clr_0, clr_s, unl_i, unl_l, unl_r, unl_n, nth_0, nth_s, sf_0, sf_s, cnd_0, cnd_1, cnd_2, cnd_3, cnd_4, cnd_5, fit_0, fit_1, fit_2, en_0, en_i, en_l, en_r, kb_t, kb_f, kb_n, sw_0, sw_s, ↓reduceIte, Nat.reduceEqDiff, Nat.left_eq_add, Nat.add_eq_left, Nat.add_left_cancel_iff, Nat.reduceAdd, Int.reduceLT, Int.reduceLE, Int.reduceAdd, Int.reduceSub, Int.reduceNeg, Int.reduceMul, Int.reduceToNat, Int.reduceEq, reduceCtorEq, true_and, and_true, true_or, or_true, and_false, false_and, or_false, false_or, not_true_eq_false, not_false_eq_true, Nat.le_refl, and_self, Sum.inl.injEq, Sum.inr.injEq, Option.some.injEq, hS_2, k_isref, pd_0, pd_s, List.cons_append, List.nil_append, Option.toList_none, Option.toList_some, tX6_parse, rX6_parse, hz, u3, nat1, e5]
          refine ⟨⟨by omega, by omega⟩, ⟨by omega, Nat.le_of_ble_eq_true rfl⟩, ?_⟩
          exact p_sub (by (repeat (first | exact le_nil | refine le_s ?_ | refine le_n ?_))) (ih _ T.2 _ (by omega) (by omega) (hP1.rch hra hag) hI1)
        · rw [if_pos hz]
          simp only [st_0, st_1, st_2, st_3, st_4, st_5, st_6, st_7, st_8, st_9, st_10, st_11, st_12, st_13, st_14, st_15, st_16, st_17, st_18, st_19, st_20, st_21, st_22, st_23, st_24, st_25, st_26, st_27, st_28, st_29, st_30, st_31, st_32, st_33, st_34, st_34a, st_35, st_36, st_37, st_38, st_39, st_42, st_44, st_45, st_47, st_40, st_41, st_46, st_48, st_49, st_43, go_0, go_s, cut_0, cut_s, get_0, get_s, put_0, put_1, put_s, clr_0, clr_s, unl_i, unl_l, unl_r, unl_n, nth_0, nth_s, sf_0, sf_s, cnd_0, cnd_1, cnd_2, cnd_3, cnd_4, cnd_5, fit_0, fit_1, fit_2, en_0, en_i, en_l, en_r, kb_t, kb_f, kb_n, sw_0, sw_s, ↓reduceIte, Nat.reduceEqDiff, Nat.left_eq_add, Nat.add_eq_left, Nat.add_left_cancel_iff, Nat.reduceAdd, Int.reduceLT, Int.reduceLE, Int.reduceAdd, Int.reduceSub, Int.reduceNeg, Int.reduceMul, Int.reduceToNat, Int.reduceEq, reduceCtorEq, true_and, and_true, true_or, or_true, and_false, false_and, or_false, false_or, not_true_eq_false, not_false_eq_true, Nat.le_refl, and_self, Sum.inl.injEq, Sum.inr.injEq, Option.some.injEq, hS_2, k_isref, pd_0, pd_s, List.cons_append, List.nil_append, Option.toList_none, Option.toList_some, tX6_parse, rX6_parse, hz]
          unfold PrP prE
          rw [if_pos hz]
          exact ⟨rfl, hP1, hI1.mono (by omega)⟩
      simp only [st_0, st_1, st_2, st_3, st_4, st_5, st_6, st_7, st_8, st_9, st_10, st_11, st_12, st_13, st_14, st_15, st_16, st_17, st_18, st_19, st_20, st_21, st_22, st_23, st_24, st_25, st_26, st_27, st_28, st_29, st_30, st_31, st_32, st_33, st_34, st_34a, st_35, st_36, st_37, st_38, st_39, st_42, st_44, st_45, st_47, st_40, st_41, st_46, st_48, st_49, st_43, go_0, go_s, cut_0, cut_s, get_0, get_s, put_0, put_1, put_s, clr_0, clr_s, unl_i, unl_l, unl_r, unl_n, nth_0, nth_s, sf_0, sf_s, cnd_0, cnd_1, cnd_2, cnd_3, cnd_4, cnd_5, fit_0, fit_1, fit_2, en_0, en_i, en_l, en_r, kb_t, kb_f, kb_n, sw_0, sw_s, ↓reduceIte, Nat.reduceEqDiff, Nat.left_eq_add, Nat.add_eq_left, Nat.add_left_cancel_iff, Nat.reduceAdd, Int.reduceLT, Int.reduceLE, Int.reduceAdd, Int.reduceSub, Int.reduceNeg, Int.reduceMul, Int.reduceToNat, Int.reduceEq, reduceCtorEq, true_and, and_true, true_or, or_true, and_false, false_and, or_false, false_or, not_true_eq_false, not_false_eq_true, Nat.le_refl, and_self, Sum.inl.injEq, Sum.inr.injEq, Option.some.injEq, hS_2, k_isref, pd_0, pd_s, List.cons_append, List.nil_append, Option.toList_none, Option.toList_some, tX6_parse, rX6_parse, s3, hEh.2.2.2.1, Int.toNat_natCast]
      refine k_brI (fun c1 => ?_) (fun c1 => ?_)
      · refine ⟨⟨by omega, by omega⟩, ?_⟩
        have hT : tkSign (f rc) S = prT R E f en rc S := by unfold prT; rw [if_neg (by omega)]
        refine cVQ (d' := 4) [vI (f rc), vR g] [] l_6_45 s3 (e_takeSign hS2 hI (by omega) hra hag (Nat.le_refl 4)) (by omega) ?_ (fun E h' q => by cases q.1)
        intro r1 h1 ⟨q1, q2'⟩
        cases q1
        exact hgo _ h1 hT q2' ((tkSign_I hI).mono (by omega))
      · have hT : tkSpell R E f rc (bhd f (en - rc) rc) S = prT R E f en rc S := by unfold prT; rw [if_pos (by omega)]
        refine cVQ (d' := 4) [vR t, vI (bhd f (en - rc) rc : Nat), vR g] [] l_6_41 s3 (e_takeSpelling hS2 hI hE hEI hO (by omega) hra hag (Nat.le_refl 4) ⟨b1, by omega⟩ b3) (by omega) ?_ (fun E h' q => by cases q.1)
        intro r1 h1 ⟨q1, q2'⟩
        cases q1
        refine p_go [79] 40 ?_
        simp only [st_0, st_1, st_2, st_3, st_4, st_5, st_6, st_7, st_8, st_9, st_10, st_11, st_12, st_13, st_14, st_15, st_16, st_17, st_18, st_19, st_20, st_21, st_22, st_23, st_24, st_25, st_26, st_27, st_28, st_29, st_30, st_31, st_32, st_33, st_34, st_34a, st_35, st_36, st_37, st_38, st_39, st_42, st_44, st_45, st_47, st_40, st_41, st_46, st_48, st_49, st_43, go_0, go_s, cut_0, cut_s, get_0, get_s, put_0, put_1, put_s, clr_0, clr_s, unl_i, unl_l, unl_r, unl_n, nth_0, nth_s, sf_0, sf_s, cnd_0, cnd_1, cnd_2, cnd_3, cnd_4, cnd_5, fit_0, fit_1, fit_2, en_0, en_i, en_l, en_r, kb_t, kb_f, kb_n, sw_0, sw_s, ↓reduceIte, Nat.reduceEqDiff, Nat.left_eq_add, Nat.add_eq_left, Nat.add_left_cancel_iff, Nat.reduceAdd, Int.reduceLT, Int.reduceLE, Int.reduceAdd, Int.reduceSub, Int.reduceNeg, Int.reduceMul, Int.reduceToNat, Int.reduceEq, reduceCtorEq, true_and, and_true, true_or, or_true, and_false, false_and, or_false, false_or, not_true_eq_false, not_false_eq_true, Nat.le_refl, and_self, Sum.inl.injEq, Sum.inr.injEq, Option.some.injEq, hS_2, k_isref, pd_0, pd_s, List.cons_append, List.nil_append, Option.toList_none, Option.toList_some, tX6_parse, rX6_parse]
        exact hgo _ h1 hT q2' ((tkSpell_I hEI hI).mono (by omega))
set_option maxRecDepth 100000 in
set_option maxHeartbeats 4000000 in
theorem e_parse {n : Nat} {o0 e0 : Int} {rc0 wc0 pc0 : Nat} {wl ws wp wq op oq pt ob lf sf : F_} (hE : Env h t p q q2 r f R E) (hEI : EnvI R E) (hO : EnvO t p q q2 r) (hn : n ≤ 400) (hra : r + 2 < a) (hag : a < g) (hd : 5 ≤ d) (hA : h.2 a = some (prO p o0 e0 rc0)) (hG : Gr h g wl ws wp wq op oq pt ob nw pk cl cs wc0 pc0 sz pn) (hW : RwW 20 20 wl) (h5 : h.2 (r + 1) = some (cI 1 lf)) (h6 : h.2 (r + 2) = some (cI 20 sf)) (h7 : 0 ≤ lf 0 ∧ lf 0 ≤ 20) :
    k_Ev x d 0 0 mX6_parse [vR a, vR t, vI n, vR g] h (PrP h a p g r sz pn nw pk cl cs (prs R E f n (n + 1) 0 ((-1, 1), (0, 0), (wl, ws, wp, wq), (op, oq, pt, ob), (lf, sf)))) := by
  obtain ⟨g1, gR, g4, g5, g6, g7, g8, g9, g10, g11, gC⟩ := hG
  refine k_enp 3 (Nat.le_of_ble_eq_true rfl) (p_go [] 40 ?_)
  simp only [st_0, st_1, st_2, st_3, st_4, st_5, st_6, st_7, st_8, st_9, st_10, st_11, st_12, st_13, st_14, st_15, st_16, st_17, st_18, st_19, st_20, st_21, st_22, st_23, st_24, st_25, st_26, st_27, st_28, st_29, st_30, st_31, st_32, st_33, st_34, st_34a, st_35, st_36, st_37, st_38, st_39, st_42, st_44, st_45, st_47, st_40, st_41, st_46, st_48, st_49, st_43, go_0, go_s, cut_0, cut_s, get_0, get_s, put_0, put_1, put_s, clr_0, clr_s, unl_i, unl_l, unl_r, unl_n, nth_0, nth_s, sf_0, sf_s, cnd_0, cnd_1, cnd_2, cnd_3, cnd_4, cnd_5, fit_0, fit_1, fit_2, en_0, en_i, en_l, en_r, kb_t, kb_f, kb_n, sw_0, sw_s, ↓reduceIte, Nat.reduceEqDiff, Nat.left_eq_add, Nat.add_eq_left, Nat.add_left_cancel_iff, Nat.reduceAdd, Int.reduceLT, Int.reduceLE, Int.reduceAdd, Int.reduceSub, Int.reduceNeg, Int.reduceMul, Int.reduceToNat, Int.reduceEq, reduceCtorEq, true_and, and_true, true_or, or_true, and_false, false_and, or_false, false_or, not_true_eq_false, not_false_eq_true, Nat.le_refl, and_self, Sum.inl.injEq, Sum.inr.injEq, Option.some.injEq, hS_2, k_isref, pd_0, pd_s, List.cons_append, List.nil_append, Option.toList_none, Option.toList_some, tX6_parse, rX6_parse]
  refine cV (d' := 0) [] [] l_6_19 g1 (e_gbegin g1) (by omega) (p_go [27] 40 ?_)
  have eg : (a = g) = False := eq_false (by omega)
  have et : (t = a) = False := eq_false (by omega)
  have et2 : (t = g) = False := eq_false (by omega)
  have e5 : (if ((400 : Nat) : Int) < (n : Int) then ((400 : Nat) : Int) else (n : Int)) = (n : Int) := by rw [if_neg (by omega)]
  simp only [st_0, st_1, st_2, st_3, st_4, st_5, st_6, st_7, st_8, st_9, st_10, st_11, st_12, st_13, st_14, st_15, st_16, st_17, st_18, st_19, st_20, st_21, st_22, st_23, st_24, st_25, st_26, st_27, st_28, st_29, st_30, st_31, st_32, st_33, st_34, st_34a, st_35, st_36, st_37, st_38, st_39, st_42, st_44, st_45, st_47, st_40, st_41, st_46, st_48, st_49, st_43, go_0, go_s, cut_0, cut_s, get_0, get_s, put_0, put_1, put_s, clr_0, clr_s, unl_i, unl_l, unl_r, unl_n, nth_0, nth_s, sf_0, sf_s, cnd_0, cnd_1, cnd_2, cnd_3, cnd_4, cnd_5, fit_0, fit_1, fit_2, en_0, en_i, en_l, en_r, kb_t, kb_f, kb_n, sw_0, sw_s, ↓reduceIte, Nat.reduceEqDiff, Nat.left_eq_add, Nat.add_eq_left, Nat.add_left_cancel_iff, Nat.reduceAdd, Int.reduceLT, Int.reduceLE, Int.reduceAdd, Int.reduceSub, Int.reduceNeg, Int.reduceMul, Int.reduceToNat, Int.reduceEq, reduceCtorEq, true_and, and_true, true_or, or_true, and_false, false_and, or_false, false_or, not_true_eq_false, not_false_eq_true, Nat.le_refl, and_self, Sum.inl.injEq, Sum.inr.injEq, Option.some.injEq, hS_2, k_isref, pd_0, pd_s, List.cons_append, List.nil_append, Option.toList_none, Option.toList_some, tX6_parse, rX6_parse, hA, eg, et, et2, hE.2.2.2.1, e5, hS_hS]
  refine ⟨⟨by omega, Nat.le_of_ble_eq_true rfl⟩, ?_⟩
  refine w_parse (h0 := h) hE hEI hO hn hra hag hd (n + 1) 0 _ _ (by omega) (by omega) ?_ ?_
  · refine ⟨rfl, fun z z1 z2 z3 z4 => ?_, ?_, ⟨?_, ?_, ?_, ?_, ?_, ?_, ?_, ?_, ?_, ?_, ?_⟩, ?_, ?_⟩
    · (repeat (first | exact hS_s _ _ _ | refine (hS_n (by omega)).trans ?_)); rfl
    · (repeat (first | exact hS_s _ _ _ | refine (hS_n (by omega)).trans ?_))
    · (repeat (first | exact hS_s _ _ _ | refine (hS_n (by omega)).trans ?_))
    · exact ⟨by (repeat (first | exact hS_s _ _ _ | refine (hS_n (by omega)).trans ?_)); exact gR.1, by (repeat (first | exact hS_s _ _ _ | refine (hS_n (by omega)).trans ?_)); exact gR.2.1, by (repeat (first | exact hS_s _ _ _ | refine (hS_n (by omega)).trans ?_)); exact gR.2.2⟩
    · (repeat (first | exact hS_s _ _ _ | refine (hS_n (by omega)).trans ?_)); exact g4
    · (repeat (first | exact hS_s _ _ _ | refine (hS_n (by omega)).trans ?_)); exact g5
    · (repeat (first | exact hS_s _ _ _ | refine (hS_n (by omega)).trans ?_)); exact g6
    · (repeat (first | exact hS_s _ _ _ | refine (hS_n (by omega)).trans ?_)); exact g7
    · (repeat (first | exact hS_s _ _ _ | refine (hS_n (by omega)).trans ?_)); exact g8
    · (repeat (first | exact hS_s _ _ _ | refine (hS_n (by omega)).trans ?_)); exact g9
    · (repeat (first | exact hS_s _ _ _ | refine (hS_n (by omega)).trans ?_)); exact g10
    · (repeat (first | exact hS_s _ _ _ | refine (hS_n (by omega)).trans ?_)); exact g11
    · exact ⟨by (repeat (first | exact hS_s _ _ _ | refine (hS_n (by omega)).trans ?_)); exact gC.1, by (repeat (first | exact hS_s _ _ _ | refine (hS_n (by omega)).trans ?_)); exact gC.2.1, by (repeat (first | exact hS_s _ _ _ | refine (hS_n (by omega)).trans ?_)); exact gC.2.2⟩
    · (repeat (first | exact hS_s _ _ _ | refine (hS_n (by omega)).trans ?_)); exact h5
    · (repeat (first | exact hS_s _ _ _ | refine (hS_n (by omega)).trans ?_)); exact h6
  · refine ⟨⟨?_, ?_⟩, Or.inr rfl, ?_, ?_, hW, h7, fun k hk => ?_, fun k hk => ?_, fun k hk => ?_⟩
    all_goals simp only at *
    all_goals omega
end Parse37
