/-! Hearing -/
section Hear39
variable {x : Bool} {d : Nat} {h h0 h1 : PH} {C : F_} {e : Int} {w : Nat} {a : Nat → Nat} {wc : Nat × Nat} {g hq pc sz : Nat} {cl cs pk : F_}
abbrev HS : Type := Int × Int × Int × Int
abbrev heO (hq : Nat) (ac : Nat) (S : HS) : PC := cO 2 [vR (hq + 1), vI ac, vI S.1, vI S.2.1, vI S.2.2.1, vI S.2.2.2]
/-- one command weighed -/
def wgh (S : HS) (k gp : Int) : HS := if S.1 = -1 ∨ gp < S.2.1 then (k, gp, S.1, S.2.1) else if S.2.2.1 = -1 ∨ gp < S.2.2.2 then (S.1, S.2.1, k, gp) else S
set_option maxRecDepth 100000 in
set_option maxHeartbeats 4000000 in
theorem e_weigh {ac : Nat} {S : HS} {k gp : Int} (hH : h.2 hq = some (heO hq ac S)) : k_Ev x d 0 0 mX2_weigh [vR hq, vI k, vI gp] h (fun o h' => o = rV ∧ h' = hS h hq (heO hq ac (wgh S k gp))) := by
  obtain ⟨f, fg, s, sg⟩ := S
  have hid : hS h hq (heO hq ac (f, fg, s, sg)) = h := hS_id hH
  unfold wgh
  simp only
  refine k_enp 0 (Nat.le_of_ble_eq_true rfl) (p_go [] 40 ?_)
  by_cases h1 : f = -1 ∨ gp < fg
  · rw [if_pos h1]
    simp only [st_0, st_1, st_2, st_3, st_4, st_5, st_6, st_7, st_8, st_9, st_10, st_11, st_12, st_13, st_14, st_15, st_16, st_17, st_18, st_19, st_20, st_21, st_22, st_23, st_24, st_25, st_26, st_27, st_28, st_29, st_30, st_31, st_32, st_33, st_34, st_34a, st_35, st_36, st_37, st_38, st_39, st_42, st_44, st_45, st_47, st_40, st_41, st_46, st_48, st_49, st_43, go_0, go_s, cut_0, cut_s, get_0, get_s, put_0, put_1, put_s, clr_0, clr_s, unl_i, unl_l, unl_r, unl_n, nth_0, nth_s, sf_0, sf_s, cnd_0, cnd_1, cnd_2, cnd_3, cnd_4, cnd_5, fit_0, fit_1, fit_2, en_0, en_i, en_l, en_r, kb_t, kb_f, kb_n, sw_0, sw_s, ↓reduceIte, Nat.reduceEqDiff, Nat.left_eq_add, Nat.add_eq_left, Nat.add_left_cancel_iff, Nat.reduceAdd, Int.reduceLT, Int.reduceLE, Int.reduceAdd, Int.reduceSub, Int.reduceNeg, Int.reduceMul, Int.reduceToNat, Int.reduceEq, reduceCtorEq, true_and, and_true, true_or, or_true, and_false, false_and, or_false, false_or, not_true_eq_false, not_false_eq_true, Nat.le_refl, and_self, Sum.inl.injEq, Sum.inr.injEq, Option.some.injEq, hS_2, k_isref, pd_0, pd_s, List.cons_append, List.nil_append, Option.toList_none, Option.toList_some, tX2_weigh, rX2_weigh, hH, hS_hS]
    refine k_brI (fun c => trivial) (fun c => k_brF (by omega) trivial)
  · rw [if_neg h1]
    by_cases h2 : s = -1 ∨ gp < sg
    · rw [if_pos h2]
      simp only [st_0, st_1, st_2, st_3, st_4, st_5, st_6, st_7, st_8, st_9, st_10, st_11, st_12, st_13, st_14, st_15, st_16, st_17, st_18, st_19, st_20, st_21, st_22, st_23, st_24, st_25, st_26, st_27, st_28, st_29, st_30, st_31, st_32, st_33, st_34, st_34a, st_35, st_36, st_37, st_38, st_39, st_42, st_44, st_45, st_47, st_40, st_41, st_46, st_48, st_49, st_43, go_0, go_s, cut_0, cut_s, get_0, get_s, put_0, put_1, put_s, clr_0, clr_s, unl_i, unl_l, unl_r, unl_n, nth_0, nth_s, sf_0, sf_s, cnd_0, cnd_1, cnd_2, cnd_3, cnd_4, cnd_5, fit_0, fit_1, fit_2, en_0, en_i, en_l, en_r, kb_t, kb_f, kb_n, sw_0, sw_s, ↓reduceIte, Nat.reduceEqDiff, Nat.left_eq_add, Nat.add_eq_left, Nat.add_left_cancel_iff, Nat.reduceAdd, Int.reduceLT, Int.reduceLE, Int.reduceAdd, Int.reduceSub, Int.reduceNeg, Int.reduceMul, Int.reduceToNat, Int.reduceEq, reduceCtorEq, true_and, and_true, true_or, or_true, and_false, false_and, or_false, false_or, not_true_eq_false, not_false_eq_true, Nat.le_refl, and_self, Sum.inl.injEq, Sum.inr.injEq, Option.some.injEq, hS_2, k_isref, pd_0, pd_s, List.cons_append, List.nil_append, Option.toList_none, Option.toList_some, tX2_weigh, rX2_weigh, hH, hS_hS]
      refine k_brF (by omega) (k_brT (by omega) ?_)
      exact k_brI (fun c => trivial) (fun c => k_brF (by omega) trivial)
    · rw [if_neg h2, hid]
      simp only [st_0, st_1, st_2, st_3, st_4, st_5, st_6, st_7, st_8, st_9, st_10, st_11, st_12, st_13, st_14, st_15, st_16, st_17, st_18, st_19, st_20, st_21, st_22, st_23, st_24, st_25, st_26, st_27, st_28, st_29, st_30, st_31, st_32, st_33, st_34, st_34a, st_35, st_36, st_37, st_38, st_39, st_42, st_44, st_45, st_47, st_40, st_41, st_46, st_48, st_49, st_43, go_0, go_s, cut_0, cut_s, get_0, get_s, put_0, put_1, put_s, clr_0, clr_s, unl_i, unl_l, unl_r, unl_n, nth_0, nth_s, sf_0, sf_s, cnd_0, cnd_1, cnd_2, cnd_3, cnd_4, cnd_5, fit_0, fit_1, fit_2, en_0, en_i, en_l, en_r, kb_t, kb_f, kb_n, sw_0, sw_s, ↓reduceIte, Nat.reduceEqDiff, Nat.left_eq_add, Nat.add_eq_left, Nat.add_left_cancel_iff, Nat.reduceAdd, Int.reduceLT, Int.reduceLE, Int.reduceAdd, Int.reduceSub, Int.reduceNeg, Int.reduceMul, Int.reduceToNat, Int.reduceEq, reduceCtorEq, true_and, and_true, true_or, or_true, and_false, false_and, or_false, false_or, not_true_eq_false, not_false_eq_true, Nat.le_refl, and_self, Sum.inl.injEq, Sum.inr.injEq, Option.some.injEq, hS_2, k_isref, pd_0, pd_s, List.cons_append, List.nil_append, Option.toList_none, Option.toList_some, tX2_weigh, rX2_weigh, hH, hS_hS]
      refine k_brF (by omega) (k_brT (by omega) ?_)
      exact k_brF (by omega) (k_brT (by omega) trivial)
set_option maxRecDepth 100000 in
set_option maxHeartbeats 4000000 in
theorem e_hforget {ac : Nat} {S : HS} (hH : h.2 hq = some (heO hq ac S)) : k_Ev x d 0 0 mX2_forget [vR hq] h (fun o h' => o = rV ∧ h' = hS h hq (heO hq 0 (-1, -1, -1, -1))) := by
  refine k_enp 0 (Nat.le_of_ble_eq_true rfl) (p_go [] 40 ?_)
  simp only [st_0, st_1, st_2, st_3, st_4, st_5, st_6, st_7, st_8, st_9, st_10, st_11, st_12, st_13, st_14, st_15, st_16, st_17, st_18, st_19, st_20, st_21, st_22, st_23, st_24, st_25, st_26, st_27, st_28, st_29, st_30, st_31, st_32, st_33, st_34, st_34a, st_35, st_36, st_37, st_38, st_39, st_42, st_44, st_45, st_47, st_40, st_41, st_46, st_48, st_49, st_43, go_0, go_s, cut_0, cut_s, get_0, get_s, put_0, put_1, put_s, clr_0, clr_s, unl_i, unl_l, unl_r, unl_n, nth_0, nth_s, sf_0, sf_s, cnd_0, cnd_1, cnd_2, cnd_3, cnd_4, cnd_5, fit_0, fit_1, fit_2, en_0, en_i, en_l, en_r, kb_t, kb_f, kb_n, sw_0, sw_s, ↓reduceIte, Nat.reduceEqDiff, Nat.left_eq_add, Nat.add_eq_left, Nat.add_left_cancel_iff, Nat.reduceAdd, Int.reduceLT, Int.reduceLE, Int.reduceAdd, Int.reduceSub, Int.reduceNeg, Int.reduceMul, Int.reduceToNat, Int.reduceEq, reduceCtorEq, true_and, and_true, true_or, or_true, and_false, false_and, or_false, false_or, not_true_eq_false, not_false_eq_true, Nat.le_refl, and_self, Sum.inl.injEq, Sum.inr.injEq, Option.some.injEq, hS_2, k_isref, pd_0, pd_s, List.cons_append, List.nil_append, Option.toList_none, Option.toList_some, tX2_forget, rX2_forget, hH, hS_hS]
  exact rfl
set_option maxRecDepth 100000 in
set_option maxHeartbeats 4000000 in
theorem e_asked {ac : Nat} {S : HS} {ag : F_} (hH : h.2 hq = some (heO hq ac S)) (hA : h.2 (hq + 1) = some (cI 8 ag)) (hac : ac ≤ 8) (k : Int) : k_Ev x d 0 0 mX2_asked [vR hq, vI k] h (fun o h' => o = rI (if 0 ≤ k ∧ k < ac then ag k.toNat else -1) ∧ h' = h) := by
  refine k_enp 0 (Nat.le_of_ble_eq_true rfl) (p_go [] 40 ?_)
  simp only [st_0, st_1, st_2, st_3, st_4, st_5, st_6, st_7, st_8, st_9, st_10, st_11, st_12, st_13, st_14, st_15, st_16, st_17, st_18, st_19, st_20, st_21, st_22, st_23, st_24, st_25, st_26, st_27, st_28, st_29, st_30, st_31, st_32, st_33, st_34, st_34a, st_35, st_36, st_37, st_38, st_39, st_42, st_44, st_45, st_47, st_40, st_41, st_46, st_48, st_49, st_43, go_0, go_s, cut_0, cut_s, get_0, get_s, put_0, put_1, put_s, clr_0, clr_s, unl_i, unl_l, unl_r, unl_n, nth_0, nth_s, sf_0, sf_s, cnd_0, cnd_1, cnd_2, cnd_3, cnd_4, cnd_5, fit_0, fit_1, fit_2, en_0, en_i, en_l, en_r, kb_t, kb_f, kb_n, sw_0, sw_s, ↓reduceIte, Nat.reduceEqDiff, Nat.left_eq_add, Nat.add_eq_left, Nat.add_left_cancel_iff, Nat.reduceAdd, Int.reduceLT, Int.reduceLE, Int.reduceAdd, Int.reduceSub, Int.reduceNeg, Int.reduceMul, Int.reduceToNat, Int.reduceEq, reduceCtorEq, true_and, and_true, true_or, or_true, and_false, false_and, or_false, false_or, not_true_eq_false, not_false_eq_true, Nat.le_refl, and_self, Sum.inl.injEq, Sum.inr.injEq, Option.some.injEq, hS_2, k_isref, pd_0, pd_s, List.cons_append, List.nil_append, Option.toList_none, Option.toList_some, tX2_asked, rX2_asked, hH, hA]
  (repeat' (first | refine k_brI (fun _ => ?_) (fun _ => ?_) | refine And.intro ?_ ?_))
  all_goals first | omega | rw [if_neg (by omega)] | rw [if_pos (by omega)]
theorem lns_0 {N ac : F_} {sd : Nat → Nat} {fl : F_} {w : Nat} (hN : cOk N) (hac : ∀ c, c ≤ w → 0 ≤ ac c ∧ ac c < 17) (hfl : ∀ c, c ≤ w → 0 ≤ fl c) : ∀ (i : Nat), (∀ k, k < i → sd k < 17) → ∀ c, c ≤ w → 0 ≤ lns N ac fl sd i c
  | 0, _, c, hc => hfl c hc
  | i + 1, hs, c, hc => by
    have ih := lns_0 hN hac hfl i (fun k hk => hs k (by omega))
    have hsi := hs i (by omega)
    simp only [lns, nl]
    induction c with
    | zero =>
      simp only [nxl]
      have := ih 0 hc
      have := hN.2 (17 * sd i) (by omega)
      omega
    | succ c ihc =>
      have i1 := ih (c + 1) hc
      have i2 := ih c (by omega)
      have i3 := ihc (by omega)
      have a1 := hac (c + 1) hc
      have n1 := hN.2 (17 * sd i) (by omega)
      have n2 := hN.2 (17 * sd i + (ac (c + 1)).toNat) (by omega)
      have n3 := hN.2 (ac (c + 1)).toNat (by omega)
      simp only [nxl]
      omega
theorem ds_0 {N : F_} {la lb : Nat} {b : Nat → Nat} (hN : cOk N) (ha : ∀ i, i < la → a i < 17) (hb : ∀ i, i < lb → b i < 17) : 0 ≤ ds N a la b lb := by
  refine lns_0 (w := la) hN (fun c hc => ?_) (fun c hc => (flf_b hN c (fun i hi => ha i (by omega))).1) lb hb la (Nat.le_refl _)
  cases c with
  | zero => simp [acf]
  | succ c => have := ha c (by omega); simp only [acf]; omega
/-- the picks that are others -/
def askL (pk : F_) (f s : Nat) : Nat → Nat → Nat × F_ → Nat × F_
  | 0, _, A => A
  | j + 1, p, A => askL pk f s j (p + 1) (if pk (8 * f + p) = pk (8 * s + p) then A else (A.1 + 1, fS A.2 A.1 p))
/-- the heap with another hearing -/
def heH (h : PH) (hq : Nat) (ac : Nat) (S : HS) (ag : F_) : PH := hS (hS h (hq + 1) (cI 8 ag)) hq (heO hq ac S)
set_option maxRecDepth 100000 in
set_option maxHeartbeats 4000000 in
theorem w_ask {f s : Nat} {fg sg : Int} (hg : h.2 g = some (gO g wc pc sz)) (hk : h.2 (g + 11) = some (cI 960 pk)) (hpc : pc ≤ 8) (hsz : sz ≤ 120) (hf : f < sz) (hs : s < sz) (hd : 1 ≤ d) (hqg : hq + 1 < g) : ∀ (j p : Nat) (A : Nat × F_), p + j = pc → A.1 ≤ p →
    k_Wp x d 0 0 mX2_askAgain (fun r h' => r = rV ∧ h' = heH h hq (askL pk f s j p A).1 (f, fg, s, sg) (askL pk f s j p A).2) 0 0 2 [some (vR hq), some (vR g), some (vI p)] [] (heH h hq A.1 (f, fg, s, sg) A.2) := by
  intro j
  induction j with
  | zero =>
    intro p A hp hA
    have e1 : (pc : Int) ≤ p := by omega
    have kg : (heH h hq A.1 (f, fg, s, sg) A.2).2 g = some (gO g wc pc sz) := by unfold heH; (repeat (first | exact hS_s _ _ _ | refine (hS_n (by omega)).trans ?_)); exact hg
    refine p_go [] 40 ?_
    simp only [st_0, st_1, st_2, st_3, st_4, st_5, st_6, st_7, st_8, st_9, st_10, st_11, st_12, st_13, st_14, st_15, st_16, st_17, st_18, st_19, st_20, st_21, st_22, st_23, st_24, st_25, st_26, st_27, st_28, st_29, st_30, st_31, st_32, st_33, st_34, st_34a, st_35, st_36, st_37, st_38, st_39, st_42, st_44, st_45, st_47, st_40, st_41, st_46, st_48, st_49, st_43, go_0, go_s, cut_0, cut_s, get_0, get_s, put_0, put_1, put_s, clr_0, clr_s, unl_i, unl_l, unl_r, unl_n, nth_0, nth_s, sf_0, sf_s, cnd_0, cnd_1, cnd_2, cnd_3, cnd_4, cnd_5, fit_0, fit_1, fit_2, en_0, en_i, en_l, en_r, kb_t, kb_f, kb_n, sw_0, sw_s, ↓reduceIte, Nat.reduceEqDiff, Nat.left_eq_add, Nat.add_eq_left, Nat.add_left_cancel_iff, Nat.reduceAdd, Int.reduceLT, Int.reduceLE, Int.reduceAdd, Int.reduceSub, Int.reduceNeg, Int.reduceMul, Int.reduceToNat, Int.reduceEq, reduceCtorEq, true_and, and_true, true_or, or_true, and_false, false_and, or_false, false_or, not_true_eq_false, not_false_eq_true, Nat.le_refl, and_self, Sum.inl.injEq, Sum.inr.injEq, Option.some.injEq, hS_2, k_isref, pd_0, pd_s, List.cons_append, List.nil_append, Option.toList_none, Option.toList_some, tX2_askAgain, rX2_askAgain]
    refine cV (d' := 0) [] [vI p] l_2_63 kg (e_gpoints kg) (by omega) (p_go [] 40 ?_)
    simp only [st_0, st_1, st_2, st_3, st_4, st_5, st_6, st_7, st_8, st_9, st_10, st_11, st_12, st_13, st_14, st_15, st_16, st_17, st_18, st_19, st_20, st_21, st_22, st_23, st_24, st_25, st_26, st_27, st_28, st_29, st_30, st_31, st_32, st_33, st_34, st_34a, st_35, st_36, st_37, st_38, st_39, st_42, st_44, st_45, st_47, st_40, st_41, st_46, st_48, st_49, st_43, go_0, go_s, cut_0, cut_s, get_0, get_s, put_0, put_1, put_s, clr_0, clr_s, unl_i, unl_l, unl_r, unl_n, nth_0, nth_s, sf_0, sf_s, cnd_0, cnd_1, cnd_2, cnd_3, cnd_4, cnd_5, fit_0, fit_1, fit_2, en_0, en_i, en_l, en_r, kb_t, kb_f, kb_n, sw_0, sw_s, ↓reduceIte, Nat.reduceEqDiff, Nat.left_eq_add, Nat.add_eq_left, Nat.add_left_cancel_iff, Nat.reduceAdd, Int.reduceLT, Int.reduceLE, Int.reduceAdd, Int.reduceSub, Int.reduceNeg, Int.reduceMul, Int.reduceToNat, Int.reduceEq, reduceCtorEq, true_and, and_true, true_or, or_true, and_false, false_and, or_false, false_or, not_true_eq_false, not_false_eq_true, Nat.le_refl, and_self, Sum.inl.injEq, Sum.inr.injEq, Option.some.injEq, hS_2, k_isref, pd_0, pd_s, List.cons_append, List.nil_append, Option.toList_none, Option.toList_some, tX2_askAgain, rX2_askAgain, e1]
    exact rfl
  | succ j ih =>
    intro p A hp hA
    have e1 : ¬ (pc : Int) ≤ p := by omega
    have e2 : ¬ (8 : Int) ≤ (A.1 : Int) := by omega
    unfold askL
    have kg : (heH h hq A.1 (f, fg, s, sg) A.2).2 g = some (gO g wc pc sz) := by unfold heH; (repeat (first | exact hS_s _ _ _ | refine (hS_n (by omega)).trans ?_)); exact hg
    have kk : (heH h hq A.1 (f, fg, s, sg) A.2).2 (g + 11) = some (cI 960 pk) := by unfold heH; (repeat (first | exact hS_s _ _ _ | refine (hS_n (by omega)).trans ?_)); exact hk
    have kh : (heH h hq A.1 (f, fg, s, sg) A.2).2 hq = some (heO hq A.1 (f, fg, s, sg)) := hS_s _ _ _
    have ka : (heH h hq A.1 (f, fg, s, sg) A.2).2 (hq + 1) = some (cI 8 A.2) := (hS_n (by omega)).trans (hS_s _ _ _)
    have hh : ∀ (n : Nat) (ag : F_), hS (hS (heH h hq A.1 (f, fg, s, sg) A.2) (hq + 1) (cI 8 ag)) hq (heO hq n (f, fg, s, sg)) = heH h hq n (f, fg, s, sg) ag := fun n ag => hS_22 (by omega)
    have ef : (if (0 ≤ ((f : Nat) : Int) ∧ ((f : Nat) : Int) < (sz : Int)) ∧ 0 ≤ ((p : Nat) : Int) ∧ ((p : Nat) : Int) < (pc : Int) then pk (8 * ((f : Nat) : Int).toNat + ((p : Nat) : Int).toNat) else -1) = pk (8 * f + p) := by rw [if_pos (by omega), Int.toNat_natCast, Int.toNat_natCast]
    have es : (if (0 ≤ ((s : Nat) : Int) ∧ ((s : Nat) : Int) < (sz : Int)) ∧ 0 ≤ ((p : Nat) : Int) ∧ ((p : Nat) : Int) < (pc : Int) then pk (8 * ((s : Nat) : Int).toNat + ((p : Nat) : Int).toNat) else -1) = pk (8 * s + p) := by rw [if_pos (by omega), Int.toNat_natCast, Int.toNat_natCast]
    have ihA := ih (p + 1) A (by omega) (by omega)
    have ihB := ih (p + 1) (A.1 + 1, fS A.2 A.1 p) (by omega) (by simp only; omega)
    simp only [← hh (A.1 + 1)] at ihB
    generalize hgn : heH h hq A.1 (f, fg, s, sg) A.2 = hk2 at kg kk kh ka ihA ihB ⊢
    refine p_go [] 40 ?_
    simp only [st_0, st_1, st_2, st_3, st_4, st_5, st_6, st_7, st_8, st_9, st_10, st_11, st_12, st_13, st_14, st_15, st_16, st_17, st_18, st_19, st_20, st_21, st_22, st_23, st_24, st_25, st_26, st_27, st_28, st_29, st_30, st_31, st_32, st_33, st_34, st_34a, st_35, st_36, st_37, st_38, st_39, st_42, st_44, st_45, st_47, st_40, st_41, st_46, st_48, st_49, st_43, go_0, go_s, cut_0, cut_s, get_0, get_s, put_0, put_1, put_s, clr_0, clr_s, unl_i, unl_l, unl_r, unl_n, nth_0, nth_s, sf_0, sf_s, cnd_0, cnd_1, cnd_2, cnd_3, cnd_4, cnd_5, fit_0, fit_1, fit_2, en_0, en_i, en_l, en_r, kb_t, kb_f, kb_n, sw_0, sw_s, ↓reduceIte, Nat.reduceEqDiff, Nat.left_eq_add, Nat.add_eq_left, Nat.add_left_cancel_iff, Nat.reduceAdd, Int.reduceLT, Int.reduceLE, Int.reduceAdd, Int.reduceSub, Int.reduceNeg, Int.reduceMul, Int.reduceToNat, Int.reduceEq, reduceCtorEq, true_and, and_true, true_or, or_true, and_false, false_and, or_false, false_or, not_true_eq_false, not_false_eq_true, Nat.le_refl, and_self, Sum.inl.injEq, Sum.inr.injEq, Option.some.injEq, hS_2, k_isref, pd_0, pd_s, List.cons_append, List.nil_append, Option.toList_none, Option.toList_some, tX2_askAgain, rX2_askAgain]
    refine cV (d' := 0) [] [vI p] l_2_63 kg (e_gpoints kg) (by omega) (p_go [] 40 ?_)
    simp only [st_0, st_1, st_2, st_3, st_4, st_5, st_6, st_7, st_8, st_9, st_10, st_11, st_12, st_13, st_14, st_15, st_16, st_17, st_18, st_19, st_20, st_21, st_22, st_23, st_24, st_25, st_26, st_27, st_28, st_29, st_30, st_31, st_32, st_33, st_34, st_34a, st_35, st_36, st_37, st_38, st_39, st_42, st_44, st_45, st_47, st_40, st_41, st_46, st_48, st_49, st_43, go_0, go_s, cut_0, cut_s, get_0, get_s, put_0, put_1, put_s, clr_0, clr_s, unl_i, unl_l, unl_r, unl_n, nth_0, nth_s, sf_0, sf_s, cnd_0, cnd_1, cnd_2, cnd_3, cnd_4, cnd_5, fit_0, fit_1, fit_2, en_0, en_i, en_l, en_r, kb_t, kb_f, kb_n, sw_0, sw_s, ↓reduceIte, Nat.reduceEqDiff, Nat.left_eq_add, Nat.add_eq_left, Nat.add_left_cancel_iff, Nat.reduceAdd, Int.reduceLT, Int.reduceLE, Int.reduceAdd, Int.reduceSub, Int.reduceNeg, Int.reduceMul, Int.reduceToNat, Int.reduceEq, reduceCtorEq, true_and, and_true, true_or, or_true, and_false, false_and, or_false, false_or, not_true_eq_false, not_false_eq_true, Nat.le_refl, and_self, Sum.inl.injEq, Sum.inr.injEq, Option.some.injEq, hS_2, k_isref, pd_0, pd_s, List.cons_append, List.nil_append, Option.toList_none, Option.toList_some, tX2_askAgain, rX2_askAgain, e1, e2, kh]
    refine cV (d' := 0) [vI f, vI p] [] l_2_66 kg (e_picked kg kk hsz hpc f p) (by omega) (p_go [] 40 ?_)
    rw [ef]
    simp only [st_0, st_1, st_2, st_3, st_4, st_5, st_6, st_7, st_8, st_9, st_10, st_11, st_12, st_13, st_14, st_15, st_16, st_17, st_18, st_19, st_20, st_21, st_22, st_23, st_24, st_25, st_26, st_27, st_28, st_29, st_30, st_31, st_32, st_33, st_34, st_34a, st_35, st_36, st_37, st_38, st_39, st_42, st_44, st_45, st_47, st_40, st_41, st_46, st_48, st_49, st_43, go_0, go_s, cut_0, cut_s, get_0, get_s, put_0, put_1, put_s, clr_0, clr_s, unl_i, unl_l, unl_r, unl_n, nth_0, nth_s, sf_0, sf_s, cnd_0, cnd_1, cnd_2, cnd_3, cnd_4, cnd_5, fit_0, fit_1, fit_2, en_0, en_i, en_l, en_r, kb_t, kb_f, kb_n, sw_0, sw_s, ↓reduceIte, Nat.reduceEqDiff, Nat.left_eq_add, Nat.add_eq_left, Nat.add_left_cancel_iff, Nat.reduceAdd, Int.reduceLT, Int.reduceLE, Int.reduceAdd, Int.reduceSub, Int.reduceNeg, Int.reduceMul, Int.reduceToNat, Int.reduceEq, reduceCtorEq, true_and, and_true, true_or, or_true, and_false, false_and, or_false, false_or, not_true_eq_false, not_false_eq_true, Nat.le_refl, and_self, Sum.inl.injEq, Sum.inr.injEq, Option.some.injEq, hS_2, k_isref, pd_0, pd_s, List.cons_append, List.nil_append, Option.toList_none, Option.toList_some, tX2_askAgain, rX2_askAgain, kh]
    refine cV (d' := 0) [vI s, vI p] [vI (pk (8 * f + p))] l_2_66 kg (e_picked kg kk hsz hpc s p) (by omega) (p_go [2] 40 ?_)
    rw [es]
    by_cases hz : pk (8 * f + p) = pk (8 * s + p)
    · rw [if_pos hz]
      simp only [st_0, st_1, st_2, st_3, st_4, st_5, st_6, st_7, st_8, st_9, st_10, st_11, st_12, st_13, st_14, st_15, st_16, st_17, st_18, st_19, st_20, st_21, st_22, st_23, st_24, st_25, st_26, st_27, st_28, st_29, st_30, st_31, st_32, st_33, st_34, st_34a, st_35, st_36, st_37, st_38, st_39, st_42, st_44, st_45, st_47, st_40, st_41, st_46, st_48, st_49, st_43, go_0, go_s, cut_0, cut_s, get_0, get_s, put_0, put_1, put_s, clr_0, clr_s, unl_i, unl_l, unl_r, unl_n, nth_0, nth_s, sf_0, sf_s, cnd_0, cnd_1, cnd_2, cnd_3, cnd_4, cnd_5, fit_0, fit_1, fit_2, en_0, en_i, en_l, en_r, kb_t, kb_f, kb_n, sw_0, sw_s, ↓reduceIte, Nat.reduceEqDiff, Nat.left_eq_add, Nat.add_eq_left, Nat.add_left_cancel_iff, Nat.reduceAdd, Int.reduceLT, Int.reduceLE, Int.reduceAdd, Int.reduceSub, Int.reduceNeg, Int.reduceMul, Int.reduceToNat, Int.reduceEq, reduceCtorEq, true_and, and_true, true_or, or_true, and_false, false_and, or_false, false_or, not_true_eq_false, not_false_eq_true, Nat.le_refl, and_self, Sum.inl.injEq, Sum.inr.injEq, Option.some.injEq, hS_2, k_isref, pd_0, pd_s, List.cons_append, List.nil_append, Option.toList_none, Option.toList_some, tX2_askAgain, rX2_askAgain, hz, nat1]
      exact ⟨⟨by omega, by omega⟩, ihA⟩
    · rw [if_neg hz]
      simp only [st_0, st_1, st_2, st_3, st_4, st_5, st_6, st_7, st_8, st_9, st_10, st_11, st_12, st_13, st_14, st_15, st_16, st_17, st_18, st_19, st_20, st_21, st_22, st_23, st_24, st_25, st_26, st_27, st_28, st_29, st_30, st_31, st_32, st_33, st_34, st_34a, st_35, st_36, st_37, st_38, st_39, st_42, st_44, st_45, st_47, st_40, st_41, st_46, st_48, st_49, st_43, go_0, go_s, cut_0, cut_s, get_0, get_s, put_0, put_1, put_s, clr_0, clr_s, unl_i, unl_l, unl_r, unl_n, nth_0, nth_s, sf_0, sf_s, cnd_0, cnd_1, cnd_2, cnd_3, cnd_4, cnd_5, fit_0, fit_1, fit_2, en_0, en_i, en_l, en_r, kb_t, kb_f, kb_n, sw_0, sw_s, ↓reduceIte, Nat.reduceEqDiff, Nat.left_eq_add, Nat.add_eq_left, Nat.add_left_cancel_iff, Nat.reduceAdd, Int.reduceLT, Int.reduceLE, Int.reduceAdd, Int.reduceSub, Int.reduceNeg, Int.reduceMul, Int.reduceToNat, Int.reduceEq, reduceCtorEq, true_and, and_true, true_or, or_true, and_false, false_and, or_false, false_or, not_true_eq_false, not_false_eq_true, Nat.le_refl, and_self, Sum.inl.injEq, Sum.inr.injEq, Option.some.injEq, hS_2, k_isref, pd_0, pd_s, List.cons_append, List.nil_append, Option.toList_none, Option.toList_some, tX2_askAgain, rX2_askAgain, hz, nat1, kh, ka, Int.toNat_natCast]
      exact ⟨⟨by omega, by omega⟩, ⟨by omega, by omega⟩, ⟨by omega, by omega⟩, ihB⟩
set_option maxRecDepth 100000 in
set_option maxHeartbeats 4000000 in
theorem e_ask {f s : Nat} {fg sg : Int} {ag : F_} (hg : h.2 g = some (gO g wc pc sz)) (hk : h.2 (g + 11) = some (cI 960 pk)) (hH : h.2 hq = some (heO hq 0 (f, fg, s, sg))) (hA : h.2 (hq + 1) = some (cI 8 ag)) (hpc : pc ≤ 8) (hsz : sz ≤ 120) (hf : f < sz) (hs : s < sz) (hd : 1 ≤ d) (hqg : hq + 1 < g) :
    k_Ev x d 0 0 mX2_askAgain [vR hq, vR g] h (fun r h' => r = rV ∧ h' = heH h hq (askL pk f s pc 0 (0, ag)).1 (f, fg, s, sg) (askL pk f s pc 0 (0, ag)).2) := by
  refine k_enp 1 (Nat.le_of_ble_eq_true rfl) (p_go [2] 40 ?_)
  simp only [st_0, st_1, st_2, st_3, st_4, st_5, st_6, st_7, st_8, st_9, st_10, st_11, st_12, st_13, st_14, st_15, st_16, st_17, st_18, st_19, st_20, st_21, st_22, st_23, st_24, st_25, st_26, st_27, st_28, st_29, st_30, st_31, st_32, st_33, st_34, st_34a, st_35, st_36, st_37, st_38, st_39, st_42, st_44, st_45, st_47, st_40, st_41, st_46, st_48, st_49, st_43, go_0, go_s, cut_0, cut_s, get_0, get_s, put_0, put_1, put_s, clr_0, clr_s, unl_i, unl_l, unl_r, unl_n, nth_0, nth_s, sf_0, sf_s, cnd_0, cnd_1, cnd_2, cnd_3, cnd_4, cnd_5, fit_0, fit_1, fit_2, en_0, en_i, en_l, en_r, kb_t, kb_f, kb_n, sw_0, sw_s, ↓reduceIte, Nat.reduceEqDiff, Nat.left_eq_add, Nat.add_eq_left, Nat.add_left_cancel_iff, Nat.reduceAdd, Int.reduceLT, Int.reduceLE, Int.reduceAdd, Int.reduceSub, Int.reduceNeg, Int.reduceMul, Int.reduceToNat, Int.reduceEq, reduceCtorEq, true_and, and_true, true_or, or_true, and_false, false_and, or_false, false_or, not_true_eq_false, not_false_eq_true, Nat.le_refl, and_self, Sum.inl.injEq, Sum.inr.injEq, Option.some.injEq, hS_2, k_isref, pd_0, pd_s, List.cons_append, List.nil_append, Option.toList_none, Option.toList_some, tX2_askAgain, rX2_askAgain]
  have := w_ask (x := x) (fg := fg) (sg := sg) hg hk hpc hsz hf hs hd hqg pc 0 (0, ag) (by omega) (by simp)
  have e : heH h hq 0 (f, fg, s, sg) ag = h := by
    unfold heH
    rw [hS_id hA, hS_id hH]
  simp only [e] at this
  exact this
/-- all commands weighed -/
def lsn (gp : Nat → Int) : Nat → Nat → HS → HS
  | 0, _, S => S
  | j + 1, k, S => lsn gp j (k + 1) (wgh S k (rch (if S.2.2.1 = -1 then 1000000 else S.2.2.2) (gp k)))
def hsI (k : Nat) (S : HS) : Prop := ((S.1 = -1 ∧ S.2.2.1 = -1) ∨ ((0 ≤ S.1 ∧ S.1 < k) ∧ 0 ≤ S.2.1 ∧ S.2.1 ≤ 1000000)) ∧ (S.2.2.1 = -1 ∨ ((0 ≤ S.2.2.1 ∧ S.2.2.1 < k) ∧ 0 ≤ S.2.2.2 ∧ S.2.2.2 ≤ 1000000))
theorem hsI_w {k : Nat} {S : HS} {gp : Int} (hI : hsI k S) (h0 : 0 ≤ gp) (h1 : gp ≤ 1000000) : hsI (k + 1) (wgh S k gp) := by
  obtain ⟨f, fg, s, sg⟩ := S
  unfold hsI wgh at *
  simp only at *
  by_cases c1 : f = -1 ∨ gp < fg
  · rw [if_pos c1]
    simp only
    omega
  · rw [if_neg c1]
    by_cases c2 : s = -1 ∨ gp < sg
    · rw [if_pos c2]
      simp only
      omega
    · rw [if_neg c2]
      simp only
      omega
/-- Hearing at hq, with costs and measure; else as it was -/
def Hq (h0 h : PH) (hq ac : Nat) (S : HS) (ag : F_) : Prop := h.1 = h0.1 ∧ h.2 hq = some (heO hq ac S) ∧ h.2 (hq + 1) = some (cI 8 ag) ∧ ∀ z, (8 < z ∨ z < 2) → z ≠ hq → z ≠ hq + 1 → h.2 z = h0.2 z
/-- what hearing ends with -/
def hrA (pk : F_) (pc : Nat) (S : HS) (ag : F_) : Nat × F_ := if S.2.2.1 = -1 then (0, ag) else askL pk S.1.toNat S.2.2.1.toNat pc 0 (0, ag)
set_option maxRecDepth 100000 in
set_option maxHeartbeats 4000000 in
theorem w_listen {rq : Nat} {ag : F_} (hg : h0.2 g = some (gO g wc pc sz)) (hk : h0.2 (g + 11) = some (cI 960 pk)) (hR : Rw h0 (g + 12) 40 120 cl cs) (hW : RwW 40 120 cl) (hc : cOk C) (hv : ∀ l, l < sz → rvd cs (l * 40) (cl l)) (hsz : sz ≤ 120) (hpc : pc ≤ 8) (hd : 3 ≤ d) (hq8 : 8 < hq) (hqg : hq + 1 < g) (ha : ∀ i, i < w → a i < 17) : ∀ (j k : Nat) (S : HS) (h : PH), k + j = sz → hsI k S → Hq h0 h hq 0 S ag → Ml C e w a h →
    k_Wp x d 0 0 mX2_listen (fun r h' => r = rV ∧ Hq h0 h' hq (hrA pk pc (lsn (fun l => ds (fw C) a w (sdf cs (l * 40)) (cl l).toNat) j k S) ag).1 (lsn (fun l => ds (fw C) a w (sdf cs (l * 40)) (cl l).toNat) j k S) (hrA pk pc (lsn (fun l => ds (fw C) a w (sdf cs (l * 40)) (cl l).toNat) j k S) ag).2 ∧ Mq C e h') 0 0 13 [some (vR hq), some (vR g), some (vR rq), some (vR 5), some (vI k)] [] h := by
  intro j
  induction j with
  | zero =>
    intro k S h hk2 hI hH hM
    have e1 : (sz : Int) ≤ k := by omega
    obtain ⟨f, fg, s, sg⟩ := S
    obtain ⟨n1, n2, n3, n4⟩ := id hH
    have kg := (n4 g (by omega) (by omega) (by omega)).trans hg
    have kk := (n4 (g + 11) (by omega) (by omega) (by omega)).trans hk
    refine p_go [] 40 ?_
    simp only [st_0, st_1, st_2, st_3, st_4, st_5, st_6, st_7, st_8, st_9, st_10, st_11, st_12, st_13, st_14, st_15, st_16, st_17, st_18, st_19, st_20, st_21, st_22, st_23, st_24, st_25, st_26, st_27, st_28, st_29, st_30, st_31, st_32, st_33, st_34, st_34a, st_35, st_36, st_37, st_38, st_39, st_42, st_44, st_45, st_47, st_40, st_41, st_46, st_48, st_49, st_43, go_0, go_s, cut_0, cut_s, get_0, get_s, put_0, put_1, put_s, clr_0, clr_s, unl_i, unl_l, unl_r, unl_n, nth_0, nth_s, sf_0, sf_s, cnd_0, cnd_1, cnd_2, cnd_3, cnd_4, cnd_5, fit_0, fit_1, fit_2, en_0, en_i, en_l, en_r, kb_t, kb_f, kb_n, sw_0, sw_s, ↓reduceIte, Nat.reduceEqDiff, Nat.left_eq_add, Nat.add_eq_left, Nat.add_left_cancel_iff, Nat.reduceAdd, Int.reduceLT, Int.reduceLE, Int.reduceAdd, Int.reduceSub, Int.reduceNeg, Int.reduceMul, Int.reduceToNat, Int.reduceEq, reduceCtorEq, true_and, and_true, true_or, or_true, and_false, false_and, or_false, false_or, not_true_eq_false, not_false_eq_true, Nat.le_refl, and_self, Sum.inl.injEq, Sum.inr.injEq, Option.some.injEq, hS_2, k_isref, pd_0, pd_s, List.cons_append, List.nil_append, Option.toList_none, Option.toList_some, tX2_listen, rX2_listen]
    refine cV (d' := 0) [] [vI k] l_2_40 kg (e_gsize kg) (by omega) (p_go [] 40 ?_)
    unfold lsn hrA
    simp only
    by_cases hs : s = -1
    · rw [if_pos hs]
      simp only [st_0, st_1, st_2, st_3, st_4, st_5, st_6, st_7, st_8, st_9, st_10, st_11, st_12, st_13, st_14, st_15, st_16, st_17, st_18, st_19, st_20, st_21, st_22, st_23, st_24, st_25, st_26, st_27, st_28, st_29, st_30, st_31, st_32, st_33, st_34, st_34a, st_35, st_36, st_37, st_38, st_39, st_42, st_44, st_45, st_47, st_40, st_41, st_46, st_48, st_49, st_43, go_0, go_s, cut_0, cut_s, get_0, get_s, put_0, put_1, put_s, clr_0, clr_s, unl_i, unl_l, unl_r, unl_n, nth_0, nth_s, sf_0, sf_s, cnd_0, cnd_1, cnd_2, cnd_3, cnd_4, cnd_5, fit_0, fit_1, fit_2, en_0, en_i, en_l, en_r, kb_t, kb_f, kb_n, sw_0, sw_s, ↓reduceIte, Nat.reduceEqDiff, Nat.left_eq_add, Nat.add_eq_left, Nat.add_left_cancel_iff, Nat.reduceAdd, Int.reduceLT, Int.reduceLE, Int.reduceAdd, Int.reduceSub, Int.reduceNeg, Int.reduceMul, Int.reduceToNat, Int.reduceEq, reduceCtorEq, true_and, and_true, true_or, or_true, and_false, false_and, or_false, false_or, not_true_eq_false, not_false_eq_true, Nat.le_refl, and_self, Sum.inl.injEq, Sum.inr.injEq, Option.some.injEq, hS_2, k_isref, pd_0, pd_s, List.cons_append, List.nil_append, Option.toList_none, Option.toList_some, tX2_listen, rX2_listen, e1, n2, hs]
      subst hs
      exact ⟨hH, hM.q⟩
    · rw [if_neg hs]
      unfold hsI at hI
      simp only at hI
      simp only [st_0, st_1, st_2, st_3, st_4, st_5, st_6, st_7, st_8, st_9, st_10, st_11, st_12, st_13, st_14, st_15, st_16, st_17, st_18, st_19, st_20, st_21, st_22, st_23, st_24, st_25, st_26, st_27, st_28, st_29, st_30, st_31, st_32, st_33, st_34, st_34a, st_35, st_36, st_37, st_38, st_39, st_42, st_44, st_45, st_47, st_40, st_41, st_46, st_48, st_49, st_43, go_0, go_s, cut_0, cut_s, get_0, get_s, put_0, put_1, put_s, clr_0, clr_s, unl_i, unl_l, unl_r, unl_n, nth_0, nth_s, sf_0, sf_s, cnd_0, cnd_1, cnd_2, cnd_3, cnd_4, cnd_5, fit_0, fit_1, fit_2, en_0, en_i, en_l, en_r, kb_t, kb_f, kb_n, sw_0, sw_s, ↓reduceIte, Nat.reduceEqDiff, Nat.left_eq_add, Nat.add_eq_left, Nat.add_left_cancel_iff, Nat.reduceAdd, Int.reduceLT, Int.reduceLE, Int.reduceAdd, Int.reduceSub, Int.reduceNeg, Int.reduceMul, Int.reduceToNat, Int.reduceEq, reduceCtorEq, true_and, and_true, true_or, or_true, and_false, false_and, or_false, false_or, not_true_eq_false, not_false_eq_true, Nat.le_refl, and_self, Sum.inl.injEq, Sum.inr.injEq, Option.some.injEq, hS_2, k_isref, pd_0, pd_s, List.cons_append, List.nil_append, Option.toList_none, Option.toList_some, tX2_listen, rX2_listen, e1, n2, hs]
      obtain ⟨f', ef⟩ : ∃ f' : Nat, f = (f' : Int) := ⟨f.toNat, by omega⟩
      obtain ⟨s', es⟩ : ∃ s' : Nat, s = (s' : Int) := ⟨s.toNat, by omega⟩
      subst ef es
      simp only [Int.toNat_natCast]
      refine cV (d' := 1) [vR g] [] l_2_59 n2 (e_ask kg kk n2 n3 hpc hsz (by omega) (by omega) (Nat.le_refl 1) hqg) (by omega) (p_go [] 40 ?_)
      simp only [st_0, st_1, st_2, st_3, st_4, st_5, st_6, st_7, st_8, st_9, st_10, st_11, st_12, st_13, st_14, st_15, st_16, st_17, st_18, st_19, st_20, st_21, st_22, st_23, st_24, st_25, st_26, st_27, st_28, st_29, st_30, st_31, st_32, st_33, st_34, st_34a, st_35, st_36, st_37, st_38, st_39, st_42, st_44, st_45, st_47, st_40, st_41, st_46, st_48, st_49, st_43, go_0, go_s, cut_0, cut_s, get_0, get_s, put_0, put_1, put_s, clr_0, clr_s, unl_i, unl_l, unl_r, unl_n, nth_0, nth_s, sf_0, sf_s, cnd_0, cnd_1, cnd_2, cnd_3, cnd_4, cnd_5, fit_0, fit_1, fit_2, en_0, en_i, en_l, en_r, kb_t, kb_f, kb_n, sw_0, sw_s, ↓reduceIte, Nat.reduceEqDiff, Nat.left_eq_add, Nat.add_eq_left, Nat.add_left_cancel_iff, Nat.reduceAdd, Int.reduceLT, Int.reduceLE, Int.reduceAdd, Int.reduceSub, Int.reduceNeg, Int.reduceMul, Int.reduceToNat, Int.reduceEq, reduceCtorEq, true_and, and_true, true_or, or_true, and_false, false_and, or_false, false_or, not_true_eq_false, not_false_eq_true, Nat.le_refl, and_self, Sum.inl.injEq, Sum.inr.injEq, Option.some.injEq, hS_2, k_isref, pd_0, pd_s, List.cons_append, List.nil_append, Option.toList_none, Option.toList_some, tX2_listen, rX2_listen]
      refine ⟨⟨n1, hS_s _ _ _, (hS_n (by omega)).trans (hS_s _ _ _), fun z z1 z2 z3 => (hS_n z2).trans ((hS_n z3).trans (n4 z z1 z2 z3))⟩, ?_⟩
      exact (hM.q.off (by omega)).off hq8
  | succ j ih =>
    intro k S h hk2 hI hH hM
    have e1 : ¬ (sz : Int) ≤ k := by omega
    obtain ⟨n1, n2, n3, n4⟩ := id hH
    have kg := (n4 g (by omega) (by omega) (by omega)).trans hg
    have kR : Rw h (g + 12) 40 120 cl cs := ⟨(n4 _ (by omega) (by omega) (by omega)).trans hR.1, (n4 _ (by omega) (by omega) (by omega)).trans hR.2.1, (n4 _ (by omega) (by omega) (by omega)).trans hR.2.2⟩
    unfold lsn
    refine p_go [] 40 ?_
    simp only [st_0, st_1, st_2, st_3, st_4, st_5, st_6, st_7, st_8, st_9, st_10, st_11, st_12, st_13, st_14, st_15, st_16, st_17, st_18, st_19, st_20, st_21, st_22, st_23, st_24, st_25, st_26, st_27, st_28, st_29, st_30, st_31, st_32, st_33, st_34, st_34a, st_35, st_36, st_37, st_38, st_39, st_42, st_44, st_45, st_47, st_40, st_41, st_46, st_48, st_49, st_43, go_0, go_s, cut_0, cut_s, get_0, get_s, put_0, put_1, put_s, clr_0, clr_s, unl_i, unl_l, unl_r, unl_n, nth_0, nth_s, sf_0, sf_s, cnd_0, cnd_1, cnd_2, cnd_3, cnd_4, cnd_5, fit_0, fit_1, fit_2, en_0, en_i, en_l, en_r, kb_t, kb_f, kb_n, sw_0, sw_s, ↓reduceIte, Nat.reduceEqDiff, Nat.left_eq_add, Nat.add_eq_left, Nat.add_left_cancel_iff, Nat.reduceAdd, Int.reduceLT, Int.reduceLE, Int.reduceAdd, Int.reduceSub, Int.reduceNeg, Int.reduceMul, Int.reduceToNat, Int.reduceEq, reduceCtorEq, true_and, and_true, true_or, or_true, and_false, false_and, or_false, false_or, not_true_eq_false, not_false_eq_true, Nat.le_refl, and_self, Sum.inl.injEq, Sum.inr.injEq, Option.some.injEq, hS_2, k_isref, pd_0, pd_s, List.cons_append, List.nil_append, Option.toList_none, Option.toList_some, tX2_listen, rX2_listen]
    refine cV (d' := 0) [] [vI k] l_2_40 kg (e_gsize kg) (by omega) (p_go [] 40 ?_)
    simp only [st_0, st_1, st_2, st_3, st_4, st_5, st_6, st_7, st_8, st_9, st_10, st_11, st_12, st_13, st_14, st_15, st_16, st_17, st_18, st_19, st_20, st_21, st_22, st_23, st_24, st_25, st_26, st_27, st_28, st_29, st_30, st_31, st_32, st_33, st_34, st_34a, st_35, st_36, st_37, st_38, st_39, st_42, st_44, st_45, st_47, st_40, st_41, st_46, st_48, st_49, st_43, go_0, go_s, cut_0, cut_s, get_0, get_s, put_0, put_1, put_s, clr_0, clr_s, unl_i, unl_l, unl_r, unl_n, nth_0, nth_s, sf_0, sf_s, cnd_0, cnd_1, cnd_2, cnd_3, cnd_4, cnd_5, fit_0, fit_1, fit_2, en_0, en_i, en_l, en_r, kb_t, kb_f, kb_n, sw_0, sw_s, ↓reduceIte, Nat.reduceEqDiff, Nat.left_eq_add, Nat.add_eq_left, Nat.add_left_cancel_iff, Nat.reduceAdd, Int.reduceLT, Int.reduceLE, Int.reduceAdd, Int.reduceSub, Int.reduceNeg, Int.reduceMul, Int.reduceToNat, Int.reduceEq, reduceCtorEq, true_and, and_true, true_or, or_true, and_false, false_and, or_false, false_or, not_true_eq_false, not_false_eq_true, Nat.le_refl, and_self, Sum.inl.injEq, Sum.inr.injEq, Option.some.injEq, hS_2, k_isref, pd_0, pd_s, List.cons_append, List.nil_append, Option.toList_none, Option.toList_some, tX2_listen, rX2_listen, e1]
    refine cV (d' := 0) [] [vR 5, vI k, vR hq] l_2_46 kg (e_gcommands kg) (by omega) (p_go [49] 40 ?_)
    have hl := hW.1 k (by omega)
    have hds := ds_0 (a := a) (la := w) (b := sdf cs (k * 40)) (lb := (cl k).toNat) (fw_ok hc) ha (fun i hi => by have := hv k (by omega) i (by omega); simp only [sdf]; omega)
    generalize hDL : lsn (fun l => ds (fw C) a w (sdf cs (l * 40)) (cl l).toNat) j (k + 1) (wgh S k (rch (if S.2.2.1 = -1 then 1000000 else S.2.2.2) (ds (fw C) a w (sdf cs (k * 40)) (cl k).toNat))) = DL
    have hgo : ∀ L : Int, L = (if S.2.2.1 = -1 then 1000000 else S.2.2.2) → k_Wp x d 0 0 mX2_listen (fun r h' => r = rV ∧ Hq h0 h' hq (hrA pk pc DL ag).1 DL (hrA pk pc DL ag).2 ∧ Mq C e h') 0 0 49 [some (vR hq), some (vR g), some (vR rq), some (vR 5), some (vI k)] [vI L, vI k, vR (g + 12), vR 5, vI k, vR hq] h := by
      intro L hL
      have hLb : 0 ≤ L ∧ L ≤ 1000000 := by
        rw [hL]
        unfold hsI at hI
        split <;> omega
      have hrb : 0 ≤ rch L (ds (fw C) a w (sdf cs (k * 40)) (cl k).toNat) ∧ rch L (ds (fw C) a w (sdf cs (k * 40)) (cl k).toNat) ≤ 1000000 := by
        unfold rch; split <;> omega
      rw [← hL] at hDL
      obtain ⟨lo5, hi5, h5⟩ := hM.2.o5
      refine cVQ (d' := 2) [vR (g + 12), vI k, vI L] [vI k, vR hq] l_2_51 h5 (e_reach' hM hc kR hW (by omega) (by omega) (by omega) (hv k (by omega)) hLb (Nat.le_refl 2)) (by omega) ?_ (fun E h' q => by cases q.1)
      intro r1 h1 ⟨q1, q2, q3⟩
      cases q1
      have k2 : h1.2 hq = some (heO hq 0 S) := (q3.2 _ (by omega)).trans n2
      refine cV (d' := 0) [vI k, vI (rch L (ds (fw C) a w (sdf cs (k * 40)) (cl k).toNat))] [] l_2_55 k2 (e_weigh k2) (by omega) (p_go [13] 40 ?_)
      simp only [st_0, st_1, st_2, st_3, st_4, st_5, st_6, st_7, st_8, st_9, st_10, st_11, st_12, st_13, st_14, st_15, st_16, st_17, st_18, st_19, st_20, st_21, st_22, st_23, st_24, st_25, st_26, st_27, st_28, st_29, st_30, st_31, st_32, st_33, st_34, st_34a, st_35, st_36, st_37, st_38, st_39, st_42, st_44, st_45, st_47, st_40, st_41, st_46, st_48, st_49, st_43, go_0, go_s, cut_0, cut_s, get_0, get_s, put_0, put_1, put_s, clr_0, clr_s, unl_i, unl_l, unl_r, unl_n, nth_0, nth_s, sf_0, sf_s, cnd_0, cnd_1, cnd_2, cnd_3, cnd_4, cnd_5, fit_0, fit_1, fit_2, en_0, en_i, en_l, en_r, kb_t, kb_f, kb_n, sw_0, sw_s, ↓reduceIte, Nat.reduceEqDiff, Nat.left_eq_add, Nat.add_eq_left, Nat.add_left_cancel_iff, Nat.reduceAdd, Int.reduceLT, Int.reduceLE, Int.reduceAdd, Int.reduceSub, Int.reduceNeg, Int.reduceMul, Int.reduceToNat, Int.reduceEq, reduceCtorEq, true_and, and_true, true_or, or_true, and_false, false_and, or_false, false_or, not_true_eq_false, not_false_eq_true, Nat.le_refl, and_self, Sum.inl.injEq, Sum.inr.injEq, Option.some.injEq, hS_2, k_isref, pd_0, pd_s, List.cons_append, List.nil_append, Option.toList_none, Option.toList_some, tX2_listen, rX2_listen, nat1]
      refine ⟨⟨by omega, by omega⟩, ?_⟩
      have := ih (k + 1) (wgh S k (rch L (ds (fw C) a w (sdf cs (k * 40)) (cl k).toNat))) (hS h1 hq (heO hq 0 (wgh S k (rch L (ds (fw C) a w (sdf cs (k * 40)) (cl k).toNat))))) (by omega) (hsI_w hI hrb.1 hrb.2) ⟨q3.1.trans n1, hS_s _ _ _, (hS_n (by omega)).trans ((q3.2 _ (by omega)).trans n3), fun z z1 z2 z3 => (hS_n z2).trans ((q3.2 z z1).trans (n4 z z1 z2 z3))⟩ (q2.off hq8)
      rw [hDL] at this
      exact this
    by_cases hs : S.2.2.1 = -1
    · rw [if_pos hs] at hgo
      simp only [st_0, st_1, st_2, st_3, st_4, st_5, st_6, st_7, st_8, st_9, st_10, st_11, st_12, st_13, st_14, st_15, st_16, st_17, st_18, st_19, st_20, st_21, st_22, st_23, st_24, st_25, st_26, st_27, st_28, st_29, st_30, st_31, st_32, st_33, st_34, st_34a, st_35, st_36, st_37, st_38, st_39, st_42, st_44, st_45, st_47, st_40, st_41, st_46, st_48, st_49, st_43, go_0, go_s, cut_0, cut_s, get_0, get_s, put_0, put_1, put_s, clr_0, clr_s, unl_i, unl_l, unl_r, unl_n, nth_0, nth_s, sf_0, sf_s, cnd_0, cnd_1, cnd_2, cnd_3, cnd_4, cnd_5, fit_0, fit_1, fit_2, en_0, en_i, en_l, en_r, kb_t, kb_f, kb_n, sw_0, sw_s, ↓reduceIte, Nat.reduceEqDiff, Nat.left_eq_add, Nat.add_eq_left, Nat.add_left_cancel_iff, Nat.reduceAdd, Int.reduceLT, Int.reduceLE, Int.reduceAdd, Int.reduceSub, Int.reduceNeg, Int.reduceMul, Int.reduceToNat, Int.reduceEq, reduceCtorEq, true_and, and_true, true_or, or_true, and_false, false_and, or_false, false_or, not_true_eq_false, not_false_eq_true, Nat.le_refl, and_self, Sum.inl.injEq, Sum.inr.injEq, Option.some.injEq, hS_2, k_isref, pd_0, pd_s, List.cons_append, List.nil_append, Option.toList_none, Option.toList_some, tX2_listen, rX2_listen, n2, hs]
      exact hgo _ rfl
    · rw [if_neg hs] at hgo
      simp only [st_0, st_1, st_2, st_3, st_4, st_5, st_6, st_7, st_8, st_9, st_10, st_11, st_12, st_13, st_14, st_15, st_16, st_17, st_18, st_19, st_20, st_21, st_22, st_23, st_24, st_25, st_26, st_27, st_28, st_29, st_30, st_31, st_32, st_33, st_34, st_34a, st_35, st_36, st_37, st_38, st_39, st_42, st_44, st_45, st_47, st_40, st_41, st_46, st_48, st_49, st_43, go_0, go_s, cut_0, cut_s, get_0, get_s, put_0, put_1, put_s, clr_0, clr_s, unl_i, unl_l, unl_r, unl_n, nth_0, nth_s, sf_0, sf_s, cnd_0, cnd_1, cnd_2, cnd_3, cnd_4, cnd_5, fit_0, fit_1, fit_2, en_0, en_i, en_l, en_r, kb_t, kb_f, kb_n, sw_0, sw_s, ↓reduceIte, Nat.reduceEqDiff, Nat.left_eq_add, Nat.add_eq_left, Nat.add_left_cancel_iff, Nat.reduceAdd, Int.reduceLT, Int.reduceLE, Int.reduceAdd, Int.reduceSub, Int.reduceNeg, Int.reduceMul, Int.reduceToNat, Int.reduceEq, reduceCtorEq, true_and, and_true, true_or, or_true, and_false, false_and, or_false, false_or, not_true_eq_false, not_false_eq_true, Nat.le_refl, and_self, Sum.inl.injEq, Sum.inr.injEq, Option.some.injEq, hS_2, k_isref, pd_0, pd_s, List.cons_append, List.nil_append, Option.toList_none, Option.toList_some, tX2_listen, rX2_listen, n2, hs]
      exact hgo _ rfl
set_option maxRecDepth 100000 in
set_option maxHeartbeats 4000000 in
theorem e_listen {rq : Nat} {ag lf sf : F_} {ac : Nat} {S0 : HS} (hH : h.2 hq = some (heO hq ac S0)) (hA : h.2 (hq + 1) = some (cI 8 ag)) (hg : h.2 g = some (gO g wc pc sz)) (hk : h.2 (g + 11) = some (cI 960 pk)) (hR : Rw h (g + 12) 40 120 cl cs) (hW : RwW 40 120 cl) (hRp : Rw h rq 40 1 lf sf) (hWp : RwW 40 1 lf) (hvp : rvd sf (0 * 40) (lf 0)) (hc : cOk C) (hv : ∀ l, l < sz → rvd cs (l * 40) (cl l)) (hsz : sz ≤ 120) (hpc : pc ≤ 8) (hd : 3 ≤ d) (hq8 : 8 < hq) (hqg : hq + 1 < g) (hrq : 8 < rq ∧ rq + 2 < hq) (hM : Mq C e h) :
    k_Ev x d 0 0 mX2_listen [vR hq, vR g, vR rq, vR 5] h (fun r h' => r = rV ∧ Hq h h' hq (hrA pk pc (lsn (fun l => ds (fw C) (sdf sf (0 * 40)) (lf 0).toNat (sdf cs (l * 40)) (cl l).toNat) sz 0 (-1, -1, -1, -1)) ag).1 (lsn (fun l => ds (fw C) (sdf sf (0 * 40)) (lf 0).toNat (sdf cs (l * 40)) (cl l).toNat) sz 0 (-1, -1, -1, -1)) (hrA pk pc (lsn (fun l => ds (fw C) (sdf sf (0 * 40)) (lf 0).toNat (sdf cs (l * 40)) (cl l).toNat) sz 0 (-1, -1, -1, -1)) ag).2 ∧ Mq C e h') := by
  have hl := hWp.1 0 (by omega)
  refine k_enp 1 (Nat.le_of_ble_eq_true rfl) (p_go [] 40 ?_)
  simp only [st_0, st_1, st_2, st_3, st_4, st_5, st_6, st_7, st_8, st_9, st_10, st_11, st_12, st_13, st_14, st_15, st_16, st_17, st_18, st_19, st_20, st_21, st_22, st_23, st_24, st_25, st_26, st_27, st_28, st_29, st_30, st_31, st_32, st_33, st_34, st_34a, st_35, st_36, st_37, st_38, st_39, st_42, st_44, st_45, st_47, st_40, st_41, st_46, st_48, st_49, st_43, go_0, go_s, cut_0, cut_s, get_0, get_s, put_0, put_1, put_s, clr_0, clr_s, unl_i, unl_l, unl_r, unl_n, nth_0, nth_s, sf_0, sf_s, cnd_0, cnd_1, cnd_2, cnd_3, cnd_4, cnd_5, fit_0, fit_1, fit_2, en_0, en_i, en_l, en_r, kb_t, kb_f, kb_n, sw_0, sw_s, ↓reduceIte, Nat.reduceEqDiff, Nat.left_eq_add, Nat.add_eq_left, Nat.add_left_cancel_iff, Nat.reduceAdd, Int.reduceLT, Int.reduceLE, Int.reduceAdd, Int.reduceSub, Int.reduceNeg, Int.reduceMul, Int.reduceToNat, Int.reduceEq, reduceCtorEq, true_and, and_true, true_or, or_true, and_false, false_and, or_false, false_or, not_true_eq_false, not_false_eq_true, Nat.le_refl, and_self, Sum.inl.injEq, Sum.inr.injEq, Option.some.injEq, hS_2, k_isref, pd_0, pd_s, List.cons_append, List.nil_append, Option.toList_none, Option.toList_some, tX2_listen, rX2_listen]
  refine cV (d' := 0) [] [] l_2_31 hH (e_hforget hH) (by omega) (p_go [] 40 ?_)
  simp only [st_0, st_1, st_2, st_3, st_4, st_5, st_6, st_7, st_8, st_9, st_10, st_11, st_12, st_13, st_14, st_15, st_16, st_17, st_18, st_19, st_20, st_21, st_22, st_23, st_24, st_25, st_26, st_27, st_28, st_29, st_30, st_31, st_32, st_33, st_34, st_34a, st_35, st_36, st_37, st_38, st_39, st_42, st_44, st_45, st_47, st_40, st_41, st_46, st_48, st_49, st_43, go_0, go_s, cut_0, cut_s, get_0, get_s, put_0, put_1, put_s, clr_0, clr_s, unl_i, unl_l, unl_r, unl_n, nth_0, nth_s, sf_0, sf_s, cnd_0, cnd_1, cnd_2, cnd_3, cnd_4, cnd_5, fit_0, fit_1, fit_2, en_0, en_i, en_l, en_r, kb_t, kb_f, kb_n, sw_0, sw_s, ↓reduceIte, Nat.reduceEqDiff, Nat.left_eq_add, Nat.add_eq_left, Nat.add_left_cancel_iff, Nat.reduceAdd, Int.reduceLT, Int.reduceLE, Int.reduceAdd, Int.reduceSub, Int.reduceNeg, Int.reduceMul, Int.reduceToNat, Int.reduceEq, reduceCtorEq, true_and, and_true, true_or, or_true, and_false, false_and, or_false, false_or, not_true_eq_false, not_false_eq_true, Nat.le_refl, and_self, Sum.inl.injEq, Sum.inr.injEq, Option.some.injEq, hS_2, k_isref, pd_0, pd_s, List.cons_append, List.nil_append, Option.toList_none, Option.toList_some, tX2_listen, rX2_listen]
  have hM1 : Mq C e (hS h hq (heO hq 0 (-1, -1, -1, -1))) := hM.off hq8
  obtain ⟨Nr, s, c1, c2, c3, w0, lo0, hi0, ac0, fl0, ln0, h5, hrest⟩ := id hM1
  refine cVQ (d' := 2) [vR rq, vI ((0 : Nat) : Int)] [] l_2_34 h5 (e_lay' hM1 hc (hRp.off (by omega) (by omega) (by omega)) hWp (by omega) (by omega) (by omega) hvp (Nat.le_refl 2)) (by omega) ?_ (fun E h' q => by cases q.1)
  intro r1 h1 ⟨q1, q2, q3⟩
  cases q1
  refine p_go [13] 40 ?_
  simp only [st_0, st_1, st_2, st_3, st_4, st_5, st_6, st_7, st_8, st_9, st_10, st_11, st_12, st_13, st_14, st_15, st_16, st_17, st_18, st_19, st_20, st_21, st_22, st_23, st_24, st_25, st_26, st_27, st_28, st_29, st_30, st_31, st_32, st_33, st_34, st_34a, st_35, st_36, st_37, st_38, st_39, st_42, st_44, st_45, st_47, st_40, st_41, st_46, st_48, st_49, st_43, go_0, go_s, cut_0, cut_s, get_0, get_s, put_0, put_1, put_s, clr_0, clr_s, unl_i, unl_l, unl_r, unl_n, nth_0, nth_s, sf_0, sf_s, cnd_0, cnd_1, cnd_2, cnd_3, cnd_4, cnd_5, fit_0, fit_1, fit_2, en_0, en_i, en_l, en_r, kb_t, kb_f, kb_n, sw_0, sw_s, ↓reduceIte, Nat.reduceEqDiff, Nat.left_eq_add, Nat.add_eq_left, Nat.add_left_cancel_iff, Nat.reduceAdd, Int.reduceLT, Int.reduceLE, Int.reduceAdd, Int.reduceSub, Int.reduceNeg, Int.reduceMul, Int.reduceToNat, Int.reduceEq, reduceCtorEq, true_and, and_true, true_or, or_true, and_false, false_and, or_false, false_or, not_true_eq_false, not_false_eq_true, Nat.le_refl, and_self, Sum.inl.injEq, Sum.inr.injEq, Option.some.injEq, hS_2, k_isref, pd_0, pd_s, List.cons_append, List.nil_append, Option.toList_none, Option.toList_some, tX2_listen, rX2_listen]
  exact w_listen hg hk hR hW hc hv hsz hpc hd hq8 hqg (fun i hi => by have := hvp i (by omega); simp only [sdf]; omega) sz 0 (-1, -1, -1, -1) h1 (by omega) ⟨Or.inl ⟨rfl, rfl⟩, Or.inl rfl⟩ ⟨q3.1, (q3.2 _ (by omega)).trans (hS_s _ _ _), (q3.2 _ (by omega)).trans ((hS_n (by omega)).trans hA), fun z z1 z2 z3 => (q3.2 z z1).trans (hS_n z2)⟩ q2
end Hear39
