/-! Slots: choose -/
section Choo42
variable {x : Bool} {d : Nat} {h h0 : PH} {q sz : Nat} {wo kn ed e : Int} {wl ws wn C : F_}
def msW (gf : Nat → Nat → Int) (wn : F_) (slot : Nat) : Nat → Nat → F_ → F_
  | 0, _, G => G
  | j + 1, w, G => msW gf wn slot j (w + 1) (msB (gf (slot * 4 + w)) wn (slot * 4 + w) slot 0 G)
def msS (gf : Nat → Nat → Int) (wn : F_) : Nat → Nat → F_ → F_
  | 0, _, G => G
  | j + 1, slot, G => msS gf wn j (slot + 1) (msW gf wn slot (wn slot).toNat 0 G)
set_option maxRecDepth 100000 in
set_option maxHeartbeats 4000000 in
theorem w_maW {slot : Nat} (h1 : h0.2 q = some (slO q sz wo kn ed)) (hR : Rw h0 (q + 1) 20 32 wl ws) (hW : RwW 20 32 wl) (h4 : h0.2 (q + 4) = some (cI 8 wn)) (hwn : ∀ s : Nat, s < 8 → 0 ≤ wn s ∧ wn s ≤ 4) (hc : cOk C) (hv : ∀ s w : Nat, s < 8 → (w : Int) < wn s → rvd ws ((s * 4 + w) * 20) (wl (s * 4 + w))) (hsl : slot < 8) (hd : 4 ≤ d) (hq : 8 < q) {P : PO → PH → Prop} : ∀ (j w : Nat) (G : F_) (h : PH), w + j = (wn slot).toNat → Gq h0 h q G → Mq C e h →
    (∀ h', Gq h0 h' q (msW (gw C wl ws) wn slot j w G) → Mq C e h' → k_Wp x d 0 0 mX9_measureAll P 0 0 39 [some (vR q), some (vR 5), some (vI slot), none] [] h') →
    k_Wp x d 0 0 mX9_measureAll P 0 0 12 [some (vR q), some (vR 5), some (vI slot), some (vI w)] [] h := by
  have hw := hwn slot hsl
  intro j
  induction j with
  | zero =>
    intro w G h hwj hG hM hP
    have e1 : wn slot ≤ (w : Int) := by omega
    obtain ⟨n1, n2, n3⟩ := id hG
    have k1 := (n3 q (by omega) (by omega)).trans h1
    have k4 := (n3 (q + 4) (by omega) (by omega)).trans h4
    refine p_go [39] 40 ?_
    simp only [st_0, st_1, st_2, st_3, st_4, st_5, st_6, st_7, st_8, st_9, st_10, st_11, st_12, st_13, st_14, st_15, st_16, st_17, st_18, st_19, st_20, st_21, st_22, st_23, st_24, st_25, st_26, st_27, st_28, st_29, st_30, st_31, st_32, st_33, st_34, st_34a, st_35, st_36, st_37, st_38, st_39, st_42, st_44, st_45, st_47, st_40, st_41, st_46, st_48, st_49, st_43, go_0, go_s, cut_0, cut_s, get_0, get_s, put_0, put_1, put_s, clr_0, clr_s, unl_i, unl_l, unl_r, unl_n, nth_0, nth_s, sf_0, sf_s, cnd_0, cnd_1, cnd_2, cnd_3, cnd_4, cnd_5, fit_0, fit_1, fit_2, en_0, en_i, en_l, en_r, kb_t, kb_f, kb_n, sw_0, sw_s, ↓reduceIte, Nat.reduceEqDiff, Nat.left_eq_add, Nat.add_eq_left, Nat.add_left_cancel_iff, Nat.reduceAdd, Int.reduceLT, Int.reduceLE, Int.reduceAdd, Int.reduceSub, Int.reduceNeg, Int.reduceMul, Int.reduceToNat, Int.reduceEq, reduceCtorEq, true_and, and_true, true_or, or_true, and_false, false_and, or_false, false_or, not_true_eq_false, not_false_eq_true, Nat.le_refl, and_self, Sum.inl.injEq, Sum.inr.injEq, Option.some.injEq, hS_2, k_isref, pd_0, pd_s, List.cons_append, List.nil_append, Option.toList_none, Option.toList_some, tX9_measureAll, rX9_measureAll, k1, k4, e1, Int.toNat_natCast]
    exact ⟨⟨by omega, by omega⟩, p_sub (by (repeat (first | exact le_nil | refine le_s ?_ | refine le_n ?_))) (hP h hG hM)⟩
  | succ j ih =>
    intro w G h hwj hG hM hP
    have e1 : ¬ wn slot ≤ (w : Int) := by omega
    have e4 : (slot : Int) * 4 + (w : Int) = ((slot * 4 + w : Nat) : Int) := by omega
    obtain ⟨n1, n2, n3⟩ := id hG
    have k1 := (n3 q (by omega) (by omega)).trans h1
    have k4 := (n3 (q + 4) (by omega) (by omega)).trans h4
    unfold msW at hP
    refine p_go [] 40 ?_
    simp only [st_0, st_1, st_2, st_3, st_4, st_5, st_6, st_7, st_8, st_9, st_10, st_11, st_12, st_13, st_14, st_15, st_16, st_17, st_18, st_19, st_20, st_21, st_22, st_23, st_24, st_25, st_26, st_27, st_28, st_29, st_30, st_31, st_32, st_33, st_34, st_34a, st_35, st_36, st_37, st_38, st_39, st_42, st_44, st_45, st_47, st_40, st_41, st_46, st_48, st_49, st_43, go_0, go_s, cut_0, cut_s, get_0, get_s, put_0, put_1, put_s, clr_0, clr_s, unl_i, unl_l, unl_r, unl_n, nth_0, nth_s, sf_0, sf_s, cnd_0, cnd_1, cnd_2, cnd_3, cnd_4, cnd_5, fit_0, fit_1, fit_2, en_0, en_i, en_l, en_r, kb_t, kb_f, kb_n, sw_0, sw_s, ↓reduceIte, Nat.reduceEqDiff, Nat.left_eq_add, Nat.add_eq_left, Nat.add_left_cancel_iff, Nat.reduceAdd, Int.reduceLT, Int.reduceLE, Int.reduceAdd, Int.reduceSub, Int.reduceNeg, Int.reduceMul, Int.reduceToNat, Int.reduceEq, reduceCtorEq, true_and, and_true, true_or, or_true, and_false, false_and, or_false, false_or, not_true_eq_false, not_false_eq_true, Nat.le_refl, and_self, Sum.inl.injEq, Sum.inr.injEq, Option.some.injEq, hS_2, k_isref, pd_0, pd_s, List.cons_append, List.nil_append, Option.toList_none, Option.toList_some, tX9_measureAll, rX9_measureAll, k1, k4, e1, e4, Int.toNat_natCast]
    refine ⟨⟨by omega, by omega⟩, ⟨by omega, by omega⟩, ⟨by omega, by omega⟩, ?_⟩
    refine cVQ (d' := 3) [vI slot, vI ((slot * 4 + w : Nat) : Int), vR 5] [] l_9_74 k1 (e_measureWord h1 hR hW h4 hwn hc hv (by omega) (by omega) (hv slot w hsl (by omega)) (Nat.le_refl 3) hq hG hM) (by omega) ?_ (fun E h' q => by cases q.1)
    intro r1 h2 ⟨q1, q2, q3⟩
    cases q1
    refine p_go [12] 40 ?_
    simp only [st_0, st_1, st_2, st_3, st_4, st_5, st_6, st_7, st_8, st_9, st_10, st_11, st_12, st_13, st_14, st_15, st_16, st_17, st_18, st_19, st_20, st_21, st_22, st_23, st_24, st_25, st_26, st_27, st_28, st_29, st_30, st_31, st_32, st_33, st_34, st_34a, st_35, st_36, st_37, st_38, st_39, st_42, st_44, st_45, st_47, st_40, st_41, st_46, st_48, st_49, st_43, go_0, go_s, cut_0, cut_s, get_0, get_s, put_0, put_1, put_s, clr_0, clr_s, unl_i, unl_l, unl_r, unl_n, nth_0, nth_s, sf_0, sf_s, cnd_0, cnd_1, cnd_2, cnd_3, cnd_4, cnd_5, fit_0, fit_1, fit_2, en_0, en_i, en_l, en_r, kb_t, kb_f, kb_n, sw_0, sw_s, ↓reduceIte, Nat.reduceEqDiff, Nat.left_eq_add, Nat.add_eq_left, Nat.add_left_cancel_iff, Nat.reduceAdd, Int.reduceLT, Int.reduceLE, Int.reduceAdd, Int.reduceSub, Int.reduceNeg, Int.reduceMul, Int.reduceToNat, Int.reduceEq, reduceCtorEq, true_and, and_true, true_or, or_true, and_false, false_and, or_false, false_or, not_true_eq_false, not_false_eq_true, Nat.le_refl, and_self, Sum.inl.injEq, Sum.inr.injEq, Option.some.injEq, hS_2, k_isref, pd_0, pd_s, List.cons_append, List.nil_append, Option.toList_none, Option.toList_some, tX9_measureAll, rX9_measureAll, nat1]
    exact ⟨⟨by omega, by omega⟩, ih (w + 1) _ _ (by omega) q2 q3 hP⟩
set_option maxRecDepth 100000 in
set_option maxHeartbeats 4000000 in
theorem w_maS (h1 : h0.2 q = some (slO q sz wo kn ed)) (hR : Rw h0 (q + 1) 20 32 wl ws) (hW : RwW 20 32 wl) (h4 : h0.2 (q + 4) = some (cI 8 wn)) (hwn : ∀ s : Nat, s < 8 → 0 ≤ wn s ∧ wn s ≤ 4) (hc : cOk C) (hv : ∀ s w : Nat, s < 8 → (w : Int) < wn s → rvd ws ((s * 4 + w) * 20) (wl (s * 4 + w))) (hsz : sz ≤ 8) (hd : 4 ≤ d) (hq : 8 < q) : ∀ (j slot : Nat) (G : F_) (h : PH), slot + j = sz → Gq h0 h q G → Mq C e h →
    k_Wp x d 0 0 mX9_measureAll (fun o h' => o = rV ∧ Gq h0 h' q (msS (gw C wl ws) wn j slot G) ∧ Mq C e h') 0 0 2 [some (vR q), some (vR 5), some (vI slot), none] [] h := by
  intro j
  induction j with
  | zero =>
    intro slot G h hs hG hM
    have e1 : (sz : Int) ≤ slot := by omega
    have k1 := (hG.2.2 q (by omega) (by omega)).trans h1
    refine p_go [] 40 ?_
    simp only [st_0, st_1, st_2, st_3, st_4, st_5, st_6, st_7, st_8, st_9, st_10, st_11, st_12, st_13, st_14, st_15, st_16, st_17, st_18, st_19, st_20, st_21, st_22, st_23, st_24, st_25, st_26, st_27, st_28, st_29, st_30, st_31, st_32, st_33, st_34, st_34a, st_35, st_36, st_37, st_38, st_39, st_42, st_44, st_45, st_47, st_40, st_41, st_46, st_48, st_49, st_43, go_0, go_s, cut_0, cut_s, get_0, get_s, put_0, put_1, put_s, clr_0, clr_s, unl_i, unl_l, unl_r, unl_n, nth_0, nth_s, sf_0, sf_s, cnd_0, cnd_1, cnd_2, cnd_3, cnd_4, cnd_5, fit_0, fit_1, fit_2, en_0, en_i, en_l, en_r, kb_t, kb_f, kb_n, sw_0, sw_s, ↓reduceIte, Nat.reduceEqDiff, Nat.left_eq_add, Nat.add_eq_left, Nat.add_left_cancel_iff, Nat.reduceAdd, Int.reduceLT, Int.reduceLE, Int.reduceAdd, Int.reduceSub, Int.reduceNeg, Int.reduceMul, Int.reduceToNat, Int.reduceEq, reduceCtorEq, true_and, and_true, true_or, or_true, and_false, false_and, or_false, false_or, not_true_eq_false, not_false_eq_true, Nat.le_refl, and_self, Sum.inl.injEq, Sum.inr.injEq, Option.some.injEq, hS_2, k_isref, pd_0, pd_s, List.cons_append, List.nil_append, Option.toList_none, Option.toList_some, tX9_measureAll, rX9_measureAll, e1, k1]
    exact ⟨hG, hM⟩
  | succ j ih =>
    intro slot G h hs hG hM
    have e1 : ¬ (sz : Int) ≤ slot := by omega
    have k1 := (hG.2.2 q (by omega) (by omega)).trans h1
    unfold msS
    refine p_go [12] 40 ?_
    simp only [st_0, st_1, st_2, st_3, st_4, st_5, st_6, st_7, st_8, st_9, st_10, st_11, st_12, st_13, st_14, st_15, st_16, st_17, st_18, st_19, st_20, st_21, st_22, st_23, st_24, st_25, st_26, st_27, st_28, st_29, st_30, st_31, st_32, st_33, st_34, st_34a, st_35, st_36, st_37, st_38, st_39, st_42, st_44, st_45, st_47, st_40, st_41, st_46, st_48, st_49, st_43, go_0, go_s, cut_0, cut_s, get_0, get_s, put_0, put_1, put_s, clr_0, clr_s, unl_i, unl_l, unl_r, unl_n, nth_0, nth_s, sf_0, sf_s, cnd_0, cnd_1, cnd_2, cnd_3, cnd_4, cnd_5, fit_0, fit_1, fit_2, en_0, en_i, en_l, en_r, kb_t, kb_f, kb_n, sw_0, sw_s, ↓reduceIte, Nat.reduceEqDiff, Nat.left_eq_add, Nat.add_eq_left, Nat.add_left_cancel_iff, Nat.reduceAdd, Int.reduceLT, Int.reduceLE, Int.reduceAdd, Int.reduceSub, Int.reduceNeg, Int.reduceMul, Int.reduceToNat, Int.reduceEq, reduceCtorEq, true_and, and_true, true_or, or_true, and_false, false_and, or_false, false_or, not_true_eq_false, not_false_eq_true, Nat.le_refl, and_self, Sum.inl.injEq, Sum.inr.injEq, Option.some.injEq, hS_2, k_isref, pd_0, pd_s, List.cons_append, List.nil_append, Option.toList_none, Option.toList_some, tX9_measureAll, rX9_measureAll, e1, k1]
    refine w_maW h1 hR hW h4 hwn hc hv (by omega) hd hq (wn slot).toNat 0 G h (by omega) hG hM (fun h' hG' hM' => ?_)
    refine p_go [2] 40 ?_
    simp only [st_0, st_1, st_2, st_3, st_4, st_5, st_6, st_7, st_8, st_9, st_10, st_11, st_12, st_13, st_14, st_15, st_16, st_17, st_18, st_19, st_20, st_21, st_22, st_23, st_24, st_25, st_26, st_27, st_28, st_29, st_30, st_31, st_32, st_33, st_34, st_34a, st_35, st_36, st_37, st_38, st_39, st_42, st_44, st_45, st_47, st_40, st_41, st_46, st_48, st_49, st_43, go_0, go_s, cut_0, cut_s, get_0, get_s, put_0, put_1, put_s, clr_0, clr_s, unl_i, unl_l, unl_r, unl_n, nth_0, nth_s, sf_0, sf_s, cnd_0, cnd_1, cnd_2, cnd_3, cnd_4, cnd_5, fit_0, fit_1, fit_2, en_0, en_i, en_l, en_r, kb_t, kb_f, kb_n, sw_0, sw_s, ↓reduceIte, Nat.reduceEqDiff, Nat.left_eq_add, Nat.add_eq_left, Nat.add_left_cancel_iff, Nat.reduceAdd, Int.reduceLT, Int.reduceLE, Int.reduceAdd, Int.reduceSub, Int.reduceNeg, Int.reduceMul, Int.reduceToNat, Int.reduceEq, reduceCtorEq, true_and, and_true, true_or, or_true, and_false, false_and, or_false, false_or, not_true_eq_false, not_false_eq_true, Nat.le_refl, and_self, Sum.inl.injEq, Sum.inr.injEq, Option.some.injEq, hS_2, k_isref, pd_0, pd_s, List.cons_append, List.nil_append, Option.toList_none, Option.toList_some, tX9_measureAll, rX9_measureAll, nat1]
    exact ⟨⟨by omega, by omega⟩, ih (slot + 1) _ h' (by omega) hG' hM'⟩
set_option maxRecDepth 100000 in
set_option maxHeartbeats 4000000 in
theorem e_measureAll {G : F_} (h1 : h.2 q = some (slO q sz wo kn ed)) (hR : Rw h (q + 1) 20 32 wl ws) (hW : RwW 20 32 wl) (h4 : h.2 (q + 4) = some (cI 8 wn)) (h5 : h.2 (q + 5) = some (cI 1024 G)) (hwn : ∀ s : Nat, s < 8 → 0 ≤ wn s ∧ wn s ≤ 4) (hc : cOk C) (hv : ∀ s w : Nat, s < 8 → (w : Int) < wn s → rvd ws ((s * 4 + w) * 20) (wl (s * 4 + w))) (hsz : sz ≤ 8) (hs1 : 1 ≤ sz) (hd : 4 ≤ d) (hq : 8 < q) (hM : Mq C e h) :
    k_Ev x d 0 0 mX9_measureAll [vR q, vR 5] h (fun o h' => o = rV ∧ Gq h h' q (msS (gw C wl ws) wn (sz - 1) 1 G) ∧ Mq C e h') := by
  refine k_enp 2 (Nat.le_of_ble_eq_true rfl) (p_go [2] 40 ?_)
  simp only [st_0, st_1, st_2, st_3, st_4, st_5, st_6, st_7, st_8, st_9, st_10, st_11, st_12, st_13, st_14, st_15, st_16, st_17, st_18, st_19, st_20, st_21, st_22, st_23, st_24, st_25, st_26, st_27, st_28, st_29, st_30, st_31, st_32, st_33, st_34, st_34a, st_35, st_36, st_37, st_38, st_39, st_42, st_44, st_45, st_47, st_40, st_41, st_46, st_48, st_49, st_43, go_0, go_s, cut_0, cut_s, get_0, get_s, put_0, put_1, put_s, clr_0, clr_s, unl_i, unl_l, unl_r, unl_n, nth_0, nth_s, sf_0, sf_s, cnd_0, cnd_1, cnd_2, cnd_3, cnd_4, cnd_5, fit_0, fit_1, fit_2, en_0, en_i, en_l, en_r, kb_t, kb_f, kb_n, sw_0, sw_s, ↓reduceIte, Nat.reduceEqDiff, Nat.left_eq_add, Nat.add_eq_left, Nat.add_left_cancel_iff, Nat.reduceAdd, Int.reduceLT, Int.reduceLE, Int.reduceAdd, Int.reduceSub, Int.reduceNeg, Int.reduceMul, Int.reduceToNat, Int.reduceEq, reduceCtorEq, true_and, and_true, true_or, or_true, and_false, false_and, or_false, false_or, not_true_eq_false, not_false_eq_true, Nat.le_refl, and_self, Sum.inl.injEq, Sum.inr.injEq, Option.some.injEq, hS_2, k_isref, pd_0, pd_s, List.cons_append, List.nil_append, Option.toList_none, Option.toList_some, tX9_measureAll, rX9_measureAll]
  exact w_maS h1 hR hW h4 hwn hc hv hsz hd hq (sz - 1) 1 G h (by omega) ⟨rfl, h5, fun z z1 z2 => rfl⟩ hM
def flF (v : Int) : Nat → Nat → F_ → F_
  | 0, _, f => f
  | j + 1, i, f => flF v j (i + 1) (fS f i v)
set_option maxRecDepth 100000 in
set_option maxHeartbeats 4000000 in
theorem w_flA {a n : Nat} {v : Int} (hn : n < 100000) {P : PO → PH → Prop} : ∀ (j i : Nat) (f : F_), i + j = n → P rV (hS h a (cI n (flF v j i f))) →
    k_Wp x d 0 0 mJ7_fill_53178 P 0 0 5 [some (vR a), some (vI v), some (vI i), some (vI n)] [] (hS h a (cI n f)) := by
  intro j
  induction j with
  | zero =>
    intro i f hi hP
    have e1 : (n : Int) ≤ i := by omega
    refine p_go [] 40 ?_
    simp only [st_0, st_1, st_2, st_3, st_4, st_5, st_6, st_7, st_8, st_9, st_10, st_11, st_12, st_13, st_14, st_15, st_16, st_17, st_18, st_19, st_20, st_21, st_22, st_23, st_24, st_25, st_26, st_27, st_28, st_29, st_30, st_31, st_32, st_33, st_34, st_34a, st_35, st_36, st_37, st_38, st_39, st_42, st_44, st_45, st_47, st_40, st_41, st_46, st_48, st_49, st_43, go_0, go_s, cut_0, cut_s, get_0, get_s, put_0, put_1, put_s, clr_0, clr_s, unl_i, unl_l, unl_r, unl_n, nth_0, nth_s, sf_0, sf_s, cnd_0, cnd_1, cnd_2, cnd_3, cnd_4, cnd_5, fit_0, fit_1, fit_2, en_0, en_i, en_l, en_r, kb_t, kb_f, kb_n, sw_0, sw_s, ↓reduceIte, Nat.reduceEqDiff, Nat.left_eq_add, Nat.add_eq_left, Nat.add_left_cancel_iff, Nat.reduceAdd, Int.reduceLT, Int.reduceLE, Int.reduceAdd, Int.reduceSub, Int.reduceNeg, Int.reduceMul, Int.reduceToNat, Int.reduceEq, reduceCtorEq, true_and, and_true, true_or, or_true, and_false, false_and, or_false, false_or, not_true_eq_false, not_false_eq_true, Nat.le_refl, and_self, Sum.inl.injEq, Sum.inr.injEq, Option.some.injEq, hS_2, k_isref, pd_0, pd_s, List.cons_append, List.nil_append, Option.toList_none, Option.toList_some, tJ7_fill_53178, rJ7_fill_53178, e1]
    exact hP
  | succ j ih =>
    intro i f hi hP
    have e1 : ¬ (n : Int) ≤ i := by omega
    have k1 : (hS h a (cI n f)).2 a = some (cI n f) := hS_s _ _ _
    have hih := ih (i + 1) (fS f i v) (by omega) hP
    rw [← hS_hS (c := cI n f)] at hih
    generalize hS h a (cI n f) = hk at k1 hih ⊢
    refine p_go [5] 40 ?_
    simp only [st_0, st_1, st_2, st_3, st_4, st_5, st_6, st_7, st_8, st_9, st_10, st_11, st_12, st_13, st_14, st_15, st_16, st_17, st_18, st_19, st_20, st_21, st_22, st_23, st_24, st_25, st_26, st_27, st_28, st_29, st_30, st_31, st_32, st_33, st_34, st_34a, st_35, st_36, st_37, st_38, st_39, st_42, st_44, st_45, st_47, st_40, st_41, st_46, st_48, st_49, st_43, go_0, go_s, cut_0, cut_s, get_0, get_s, put_0, put_1, put_s, clr_0, clr_s, unl_i, unl_l, unl_r, unl_n, nth_0, nth_s, sf_0, sf_s, cnd_0, cnd_1, cnd_2, cnd_3, cnd_4, cnd_5, fit_0, fit_1, fit_2, en_0, en_i, en_l, en_r, kb_t, kb_f, kb_n, sw_0, sw_s, ↓reduceIte, Nat.reduceEqDiff, Nat.left_eq_add, Nat.add_eq_left, Nat.add_left_cancel_iff, Nat.reduceAdd, Int.reduceLT, Int.reduceLE, Int.reduceAdd, Int.reduceSub, Int.reduceNeg, Int.reduceMul, Int.reduceToNat, Int.reduceEq, reduceCtorEq, true_and, and_true, true_or, or_true, and_false, false_and, or_false, false_or, not_true_eq_false, not_false_eq_true, Nat.le_refl, and_self, Sum.inl.injEq, Sum.inr.injEq, Option.some.injEq, hS_2, k_isref, pd_0, pd_s, List.cons_append, List.nil_append, Option.toList_none, Option.toList_some, tJ7_fill_53178, rJ7_fill_53178, e1, k1, nat1, Int.toNat_natCast]
    exact ⟨⟨by omega, by omega⟩, ⟨by omega, by omega⟩, hih⟩
set_option maxRecDepth 100000 in
set_option maxHeartbeats 4000000 in
theorem e_fillA {a n : Nat} {v : Int} {f : F_} (hn : n < 100000) (ha : h.2 a = some (cI n f)) : k_Ev x d 0 0 mJ7_fill_53178 [vR a, vI v] h (fun o h' => o = rV ∧ h' = hS h a (cI n (flF v n 0 f))) := by
  refine k_enp 2 (Nat.le_of_ble_eq_true rfl) (p_go [5] 40 ?_)
  simp only [st_0, st_1, st_2, st_3, st_4, st_5, st_6, st_7, st_8, st_9, st_10, st_11, st_12, st_13, st_14, st_15, st_16, st_17, st_18, st_19, st_20, st_21, st_22, st_23, st_24, st_25, st_26, st_27, st_28, st_29, st_30, st_31, st_32, st_33, st_34, st_34a, st_35, st_36, st_37, st_38, st_39, st_42, st_44, st_45, st_47, st_40, st_41, st_46, st_48, st_49, st_43, go_0, go_s, cut_0, cut_s, get_0, get_s, put_0, put_1, put_s, clr_0, clr_s, unl_i, unl_l, unl_r, unl_n, nth_0, nth_s, sf_0, sf_s, cnd_0, cnd_1, cnd_2, cnd_3, cnd_4, cnd_5, fit_0, fit_1, fit_2, en_0, en_i, en_l, en_r, kb_t, kb_f, kb_n, sw_0, sw_s, ↓reduceIte, Nat.reduceEqDiff, Nat.left_eq_add, Nat.add_eq_left, Nat.add_left_cancel_iff, Nat.reduceAdd, Int.reduceLT, Int.reduceLE, Int.reduceAdd, Int.reduceSub, Int.reduceNeg, Int.reduceMul, Int.reduceToNat, Int.reduceEq, reduceCtorEq, true_and, and_true, true_or, or_true, and_false, false_and, or_false, false_or, not_true_eq_false, not_false_eq_true, Nat.le_refl, and_self, Sum.inl.injEq, Sum.inr.injEq, Option.some.injEq, hS_2, k_isref, pd_0, pd_s, List.cons_append, List.nil_append, Option.toList_none, Option.toList_some, tJ7_fill_53178, rJ7_fill_53178, ha]
  have := w_flA (x := x) (d := d) (h := h) (a := a) (n := n) (v := v) hn (P := fun o h' => o = rV ∧ h' = hS h a (cI n (flF v n 0 f))) n 0 f (by omega) ⟨rfl, rfl⟩
  rw [hS_id ha] at this
  exact this
/-- Slots at q, with costs and measure; else as it was -/
def Sq (h0 h : PH) (q sz : Nat) (kn ed : Int) (T : TS) (G : F_) : Prop := h.1 = h0.1 ∧ h.2 q = some (slO q sz T.1 kn ed) ∧ h.2 (q + 5) = some (cI 1024 G) ∧ h.2 (q + 6) = some (cI 8 T.2.1) ∧ h.2 (q + 7) = some (cI 8 T.2.2) ∧ ∀ z, (8 < z ∨ z < 2) → z ≠ q → z ≠ q + 5 → z ≠ q + 6 → z ≠ q + 7 → h.2 z = h0.2 z
/-- what choosing anew ends with -/
def chN (C wl ws wn : F_) (sz : Nat) (tr ch G : F_) : TS × F_ := if rdyL wn sz 0 = 1 ∧ 2 ≤ sz then (tf sz wn (msS (gw C wl ws) wn (sz - 1) 1 G) sz 0 1000000 (-1, tr, flF (-1) 8 0 ch), msS (gw C wl ws) wn (sz - 1) 1 G) else ((-1, tr, flF (-1) 8 0 ch), G)
def chA (C wl ws wn : F_) (sz : Nat) (kn ed e : Int) (T : TS) (G : F_) : TS × F_ := if kn = 1 ∧ ed = e then (T, G) else chN C wl ws wn sz T.2.1 T.2.2 G
set_option maxRecDepth 100000 in
set_option maxHeartbeats 4000000 in
theorem e_choose {T : TS} {G : F_} (h1 : h.2 q = some (slO q sz T.1 kn ed)) (hR : Rw h (q + 1) 20 32 wl ws) (hW : RwW 20 32 wl) (h4 : h.2 (q + 4) = some (cI 8 wn)) (h5 : h.2 (q + 5) = some (cI 1024 G)) (h6 : h.2 (q + 6) = some (cI 8 T.2.1)) (h7 : h.2 (q + 7) = some (cI 8 T.2.2)) (hwn : ∀ s : Nat, s < 8 → 0 ≤ wn s ∧ wn s ≤ 4) (hc : cOk C) (hv : ∀ s w : Nat, s < 8 → (w : Int) < wn s → rvd ws ((s * 4 + w) * 20) (wl (s * 4 + w))) (hsz : sz ≤ 8) (hd : 12 ≤ d) (hq : 8 < q) (hM : Mq C e h) (hkn : kn = 0 ∨ kn = 1) :
    k_Ev x d 0 0 mX9_choose [vR q, vR 5] h (fun o h' => o = rV ∧ Sq h h' q sz 1 e (chA C wl ws wn sz kn ed e T G).1 (chA C wl ws wn sz kn ed e T G).2 ∧ Mq C e h') := by
  obtain ⟨Nr, s, c1, c2, c3, w0, lo0, hi0, ac0, fl0, ln0, hm5, hrest⟩ := id hM
  unfold chA
  generalize hF : (if kn = 1 ∧ ed = e then (T, G) else chN C wl ws wn sz T.2.1 T.2.2 G) = F
  have hgo : ¬ (kn = 1 ∧ ed = e) → k_Wp x d 0 0 mX9_choose (fun o h' => o = rV ∧ Sq h h' q sz 1 e F.1 F.2 ∧ Mq C e h') 0 0 19 [some (vR q), some (vR 5)] [] h := by
    intro hn
    rw [if_neg hn] at hF
    subst hF
    refine p_go [] 40 ?_
    simp only [st_0, st_1, st_2, st_3, st_4, st_5, st_6, st_7, st_8, st_9, st_10, st_11, st_12, st_13, st_14, st_15, st_16, st_17, st_18, st_19, st_20, st_21, st_22, st_23, st_24, st_25, st_26, st_27, st_28, st_29, st_30, st_31, st_32, st_33, st_34, st_34a, st_35, st_36, st_37, st_38, st_39, st_42, st_44, st_45, st_47, st_40, st_41, st_46, st_48, st_49, st_43, go_0, go_s, cut_0, cut_s, get_0, get_s, put_0, put_1, put_s, clr_0, clr_s, unl_i, unl_l, unl_r, unl_n, nth_0, nth_s, sf_0, sf_s, cnd_0, cnd_1, cnd_2, cnd_3, cnd_4, cnd_5, fit_0, fit_1, fit_2, en_0, en_i, en_l, en_r, kb_t, kb_f, kb_n, sw_0, sw_s, ↓reduceIte, Nat.reduceEqDiff, Nat.left_eq_add, Nat.add_eq_left, Nat.add_left_cancel_iff, Nat.reduceAdd, Int.reduceLT, Int.reduceLE, Int.reduceAdd, Int.reduceSub, Int.reduceNeg, Int.reduceMul, Int.reduceToNat, Int.reduceEq, reduceCtorEq, true_and, and_true, true_or, or_true, and_false, false_and, or_false, false_or, not_true_eq_false, not_false_eq_true, Nat.le_refl, and_self, Sum.inl.injEq, Sum.inr.injEq, Option.some.injEq, hS_2, k_isref, pd_0, pd_s, List.cons_append, List.nil_append, Option.toList_none, Option.toList_some, tX9_choose, rX9_choose, h1]
    have h5' : (hS h q (slO q sz T.1 1 ed)).2 5 = some (mo w0 lo0 hi0) := (hS_n (by omega)).trans hm5
    refine cV (d' := 1) [] [vR q] l_9_51 h5' (e_edition (hM.off hq) (Nat.le_refl 1)) (by omega) (p_go [] 40 ?_)
    simp only [st_0, st_1, st_2, st_3, st_4, st_5, st_6, st_7, st_8, st_9, st_10, st_11, st_12, st_13, st_14, st_15, st_16, st_17, st_18, st_19, st_20, st_21, st_22, st_23, st_24, st_25, st_26, st_27, st_28, st_29, st_30, st_31, st_32, st_33, st_34, st_34a, st_35, st_36, st_37, st_38, st_39, st_42, st_44, st_45, st_47, st_40, st_41, st_46, st_48, st_49, st_43, go_0, go_s, cut_0, cut_s, get_0, get_s, put_0, put_1, put_s, clr_0, clr_s, unl_i, unl_l, unl_r, unl_n, nth_0, nth_s, sf_0, sf_s, cnd_0, cnd_1, cnd_2, cnd_3, cnd_4, cnd_5, fit_0, fit_1, fit_2, en_0, en_i, en_l, en_r, kb_t, kb_f, kb_n, sw_0, sw_s, ↓reduceIte, Nat.reduceEqDiff, Nat.left_eq_add, Nat.add_eq_left, Nat.add_left_cancel_iff, Nat.reduceAdd, Int.reduceLT, Int.reduceLE, Int.reduceAdd, Int.reduceSub, Int.reduceNeg, Int.reduceMul, Int.reduceToNat, Int.reduceEq, reduceCtorEq, true_and, and_true, true_or, or_true, and_false, false_and, or_false, false_or, not_true_eq_false, not_false_eq_true, Nat.le_refl, and_self, Sum.inl.injEq, Sum.inr.injEq, Option.some.injEq, hS_2, k_isref, pd_0, pd_s, List.cons_append, List.nil_append, Option.toList_none, Option.toList_some, tX9_choose, rX9_choose, hS_hS]
    have k7 : (hS h q (slO q sz (-1) 1 e)).2 (q + 7) = some (cI 8 T.2.2) := (hS_n (by omega)).trans h7
    refine cS (d' := 0) [vR (q + 7), vI (-1)] [] l_9_56 (e_fillA (by omega) k7) (by omega) (p_go [] 40 ?_)
    have hx : ∀ z, z ≠ q → z ≠ q + 7 → (hS (hS h q (slO q sz (-1) 1 e)) (q + 7) (cI 8 (flF (-1) 8 0 T.2.2))).2 z = h.2 z := fun z z1 z2 => (hS_n z2).trans (hS_n z1)
    have j1 : (hS (hS h q (slO q sz (-1) 1 e)) (q + 7) (cI 8 (flF (-1) 8 0 T.2.2))).2 q = some (slO q sz (-1) 1 e) := (hS_n (by omega)).trans (hS_s _ _ _)
    have j7 : (hS (hS h q (slO q sz (-1) 1 e)) (q + 7) (cI 8 (flF (-1) 8 0 T.2.2))).2 (q + 7) = some (cI 8 (flF (-1) 8 0 T.2.2)) := hS_s _ _ _
    have jM : Mq C e (hS (hS h q (slO q sz (-1) 1 e)) (q + 7) (cI 8 (flF (-1) 8 0 T.2.2))) := (hM.off hq).off (by omega)
    have j0 : (hS (hS h q (slO q sz (-1) 1 e)) (q + 7) (cI 8 (flF (-1) 8 0 T.2.2))).1 = h.1 := rfl
    generalize hS (hS h q (slO q sz (-1) 1 e)) (q + 7) (cI 8 (flF (-1) 8 0 T.2.2)) = hk at hx j1 j7 jM j0 ⊢
    have j4 := (hx (q + 4) (by omega) (by omega)).trans h4
    have j5 := (hx (q + 5) (by omega) (by omega)).trans h5
    have j6 := (hx (q + 6) (by omega) (by omega)).trans h6
    have jR : Rw hk (q + 1) 20 32 wl ws := ⟨(hx _ (by omega) (by omega)).trans hR.1, (hx _ (by omega) (by omega)).trans hR.2.1, (hx _ (by omega) (by omega)).trans hR.2.2⟩
    simp only [st_0, st_1, st_2, st_3, st_4, st_5, st_6, st_7, st_8, st_9, st_10, st_11, st_12, st_13, st_14, st_15, st_16, st_17, st_18, st_19, st_20, st_21, st_22, st_23, st_24, st_25, st_26, st_27, st_28, st_29, st_30, st_31, st_32, st_33, st_34, st_34a, st_35, st_36, st_37, st_38, st_39, st_42, st_44, st_45, st_47, st_40, st_41, st_46, st_48, st_49, st_43, go_0, go_s, cut_0, cut_s, get_0, get_s, put_0, put_1, put_s, clr_0, clr_s, unl_i, unl_l, unl_r, unl_n, nth_0, nth_s, sf_0, sf_s, cnd_0, cnd_1, cnd_2, cnd_3, cnd_4, cnd_5, fit_0, fit_1, fit_2, en_0, en_i, en_l, en_r, kb_t, kb_f, kb_n, sw_0, sw_s, ↓reduceIte, Nat.reduceEqDiff, Nat.left_eq_add, Nat.add_eq_left, Nat.add_left_cancel_iff, Nat.reduceAdd, Int.reduceLT, Int.reduceLE, Int.reduceAdd, Int.reduceSub, Int.reduceNeg, Int.reduceMul, Int.reduceToNat, Int.reduceEq, reduceCtorEq, true_and, and_true, true_or, or_true, and_false, false_and, or_false, false_or, not_true_eq_false, not_false_eq_true, Nat.le_refl, and_self, Sum.inl.injEq, Sum.inr.injEq, Option.some.injEq, hS_2, k_isref, pd_0, pd_s, List.cons_append, List.nil_append, Option.toList_none, Option.toList_some, tX9_choose, rX9_choose]
    refine cV (d' := 0) [] [] l_9_62 j1 (e_isReady j1 j4 hsz) (by omega) (p_go [] 40 ?_)
    unfold chN
    by_cases hr : rdyL wn sz 0 = 1 ∧ 2 ≤ sz
    · simp only [if_pos hr]
      simp only [st_0, st_1, st_2, st_3, st_4, st_5, st_6, st_7, st_8, st_9, st_10, st_11, st_12, st_13, st_14, st_15, st_16, st_17, st_18, st_19, st_20, st_21, st_22, st_23, st_24, st_25, st_26, st_27, st_28, st_29, st_30, st_31, st_32, st_33, st_34, st_34a, st_35, st_36, st_37, st_38, st_39, st_42, st_44, st_45, st_47, st_40, st_41, st_46, st_48, st_49, st_43, go_0, go_s, cut_0, cut_s, get_0, get_s, put_0, put_1, put_s, clr_0, clr_s, unl_i, unl_l, unl_r, unl_n, nth_0, nth_s, sf_0, sf_s, cnd_0, cnd_1, cnd_2, cnd_3, cnd_4, cnd_5, fit_0, fit_1, fit_2, en_0, en_i, en_l, en_r, kb_t, kb_f, kb_n, sw_0, sw_s, ↓reduceIte, Nat.reduceEqDiff, Nat.left_eq_add, Nat.add_eq_left, Nat.add_left_cancel_iff, Nat.reduceAdd, Int.reduceLT, Int.reduceLE, Int.reduceAdd, Int.reduceSub, Int.reduceNeg, Int.reduceMul, Int.reduceToNat, Int.reduceEq, reduceCtorEq, true_and, and_true, true_or, or_true, and_false, false_and, or_false, false_or, not_true_eq_false, not_false_eq_true, Nat.le_refl, and_self, Sum.inl.injEq, Sum.inr.injEq, Option.some.injEq, hS_2, k_isref, pd_0, pd_s, List.cons_append, List.nil_append, Option.toList_none, Option.toList_some, tX9_choose, rX9_choose]
      refine cVQ (d' := 4) [vR 5] [] l_9_66 j1 (e_measureAll j1 jR hW j4 j5 hwn hc hv hsz (by omega) (Nat.le_refl 4) hq jM) (by omega) ?_ (fun E h' q => by cases q.1)
      intro r1 h2 ⟨q1, q2, q3⟩
      cases q1
      generalize msS (gw C wl ws) wn (sz - 1) 1 G = G2 at q2 ⊢
      obtain ⟨n1, n2, n3⟩ := q2
      have i1 := (n3 q (by omega) (by omega)).trans j1
      have i4 := (n3 (q + 4) (by omega) (by omega)).trans j4
      have i6 := (n3 (q + 6) (by omega) (by omega)).trans j6
      have i7 := (n3 (q + 7) (by omega) (by omega)).trans j7
      have eT : slH h2 q sz 1 e (-1, T.2.1, flF (-1) 8 0 T.2.2) = h2 := by
        unfold slH
        rw [hS_id i6, hS_id i7, hS_id i1]
      refine p_go [] 40 ?_
      simp only [st_0, st_1, st_2, st_3, st_4, st_5, st_6, st_7, st_8, st_9, st_10, st_11, st_12, st_13, st_14, st_15, st_16, st_17, st_18, st_19, st_20, st_21, st_22, st_23, st_24, st_25, st_26, st_27, st_28, st_29, st_30, st_31, st_32, st_33, st_34, st_34a, st_35, st_36, st_37, st_38, st_39, st_42, st_44, st_45, st_47, st_40, st_41, st_46, st_48, st_49, st_43, go_0, go_s, cut_0, cut_s, get_0, get_s, put_0, put_1, put_s, clr_0, clr_s, unl_i, unl_l, unl_r, unl_n, nth_0, nth_s, sf_0, sf_s, cnd_0, cnd_1, cnd_2, cnd_3, cnd_4, cnd_5, fit_0, fit_1, fit_2, en_0, en_i, en_l, en_r, kb_t, kb_f, kb_n, sw_0, sw_s, ↓reduceIte, Nat.reduceEqDiff, Nat.left_eq_add, Nat.add_eq_left, Nat.add_left_cancel_iff, Nat.reduceAdd, Int.reduceLT, Int.reduceLE, Int.reduceAdd, Int.reduceSub, Int.reduceNeg, Int.reduceMul, Int.reduceToNat, Int.reduceEq, reduceCtorEq, true_and, and_true, true_or, or_true, and_false, false_and, or_false, false_or, not_true_eq_false, not_false_eq_true, Nat.le_refl, and_self, Sum.inl.injEq, Sum.inr.injEq, Option.some.injEq, hS_2, k_isref, pd_0, pd_s, List.cons_append, List.nil_append, Option.toList_none, Option.toList_some, tX9_choose, rX9_choose]
      have hev := e_tryFrom (x := x) (q := q) (kn := 1) (ed := e) i4 n2 hsz hwn sz 0 10 1000000 (-1, T.2.1, flF (-1) 8 0 T.2.2) (by omega) (by omega) (fun b hb => by omega)
      rw [eT] at hev
      refine cV (d' := 10) [vI ((0 : Nat) : Int), vI 1000000] [] l_9_71 i1 hev (by omega) (p_go [] 40 ?_)
      simp only [st_0, st_1, st_2, st_3, st_4, st_5, st_6, st_7, st_8, st_9, st_10, st_11, st_12, st_13, st_14, st_15, st_16, st_17, st_18, st_19, st_20, st_21, st_22, st_23, st_24, st_25, st_26, st_27, st_28, st_29, st_30, st_31, st_32, st_33, st_34, st_34a, st_35, st_36, st_37, st_38, st_39, st_42, st_44, st_45, st_47, st_40, st_41, st_46, st_48, st_49, st_43, go_0, go_s, cut_0, cut_s, get_0, get_s, put_0, put_1, put_s, clr_0, clr_s, unl_i, unl_l, unl_r, unl_n, nth_0, nth_s, sf_0, sf_s, cnd_0, cnd_1, cnd_2, cnd_3, cnd_4, cnd_5, fit_0, fit_1, fit_2, en_0, en_i, en_l, en_r, kb_t, kb_f, kb_n, sw_0, sw_s, ↓reduceIte, Nat.reduceEqDiff, Nat.left_eq_add, Nat.add_eq_left, Nat.add_left_cancel_iff, Nat.reduceAdd, Int.reduceLT, Int.reduceLE, Int.reduceAdd, Int.reduceSub, Int.reduceNeg, Int.reduceMul, Int.reduceToNat, Int.reduceEq, reduceCtorEq, true_and, and_true, true_or, or_true, and_false, false_and, or_false, false_or, not_true_eq_false, not_false_eq_true, Nat.le_refl, and_self, Sum.inl.injEq, Sum.inr.injEq, Option.some.injEq, hS_2, k_isref, pd_0, pd_s, List.cons_append, List.nil_append, Option.toList_none, Option.toList_some, tX9_choose, rX9_choose]
      refine ⟨⟨n1.trans j0, slH_q, (slH_n (by omega) (by omega) (by omega)).trans n2, slH_6, slH_7, fun z z1 z2 z3 z4 z5 => (slH_n z4 z5 z2).trans ((n3 z z1 z3).trans (hx z z2 z5))⟩, ?_⟩
      exact ((q3.off (by omega)).off (by omega)).off hq
    · simp only [if_neg hr]
      simp only [st_0, st_1, st_2, st_3, st_4, st_5, st_6, st_7, st_8, st_9, st_10, st_11, st_12, st_13, st_14, st_15, st_16, st_17, st_18, st_19, st_20, st_21, st_22, st_23, st_24, st_25, st_26, st_27, st_28, st_29, st_30, st_31, st_32, st_33, st_34, st_34a, st_35, st_36, st_37, st_38, st_39, st_42, st_44, st_45, st_47, st_40, st_41, st_46, st_48, st_49, st_43, go_0, go_s, cut_0, cut_s, get_0, get_s, put_0, put_1, put_s, clr_0, clr_s, unl_i, unl_l, unl_r, unl_n, nth_0, nth_s, sf_0, sf_s, cnd_0, cnd_1, cnd_2, cnd_3, cnd_4, cnd_5, fit_0, fit_1, fit_2, en_0, en_i, en_l, en_r, kb_t, kb_f, kb_n, sw_0, sw_s, ↓reduceIte, Nat.reduceEqDiff, Nat.left_eq_add, Nat.add_eq_left, Nat.add_left_cancel_iff, Nat.reduceAdd, Int.reduceLT, Int.reduceLE, Int.reduceAdd, Int.reduceSub, Int.reduceNeg, Int.reduceMul, Int.reduceToNat, Int.reduceEq, reduceCtorEq, true_and, and_true, true_or, or_true, and_false, false_and, or_false, false_or, not_true_eq_false, not_false_eq_true, Nat.le_refl, and_self, Sum.inl.injEq, Sum.inr.injEq, Option.some.injEq, hS_2, k_isref, pd_0, pd_s, List.cons_append, List.nil_append, Option.toList_none, Option.toList_some, tX9_choose, rX9_choose]
      exact ⟨⟨j0, j1, j5, j6, j7, fun z z1 z2 z3 z4 z5 => hx z z2 z5⟩, jM⟩
  refine k_enp 0 (Nat.le_of_ble_eq_true rfl) (p_go [19] 40 ?_)
  by_cases hk : kn = 1
  · subst hk
    simp only [st_0, st_1, st_2, st_3, st_4, st_5, st_6, st_7, st_8, st_9, st_10, st_11, st_12, st_13, st_14, st_15, st_16, st_17, st_18, st_19, st_20, st_21, st_22, st_23, st_24, st_25, st_26, st_27, st_28, st_29, st_30, st_31, st_32, st_33, st_34, st_34a, st_35, st_36, st_37, st_38, st_39, st_42, st_44, st_45, st_47, st_40, st_41, st_46, st_48, st_49, st_43, go_0, go_s, cut_0, cut_s, get_0, get_s, put_0, put_1, put_s, clr_0, clr_s, unl_i, unl_l, unl_r, unl_n, nth_0, nth_s, sf_0, sf_s, cnd_0, cnd_1, cnd_2, cnd_3, cnd_4, cnd_5, fit_0, fit_1, fit_2, en_0, en_i, en_l, en_r, kb_t, kb_f, kb_n, sw_0, sw_s, ↓reduceIte, Nat.reduceEqDiff, Nat.left_eq_add, Nat.add_eq_left, Nat.add_left_cancel_iff, Nat.reduceAdd, Int.reduceLT, Int.reduceLE, Int.reduceAdd, Int.reduceSub, Int.reduceNeg, Int.reduceMul, Int.reduceToNat, Int.reduceEq, reduceCtorEq, true_and, and_true, true_or, or_true, and_false, false_and, or_false, false_or, not_true_eq_false, not_false_eq_true, Nat.le_refl, and_self, Sum.inl.injEq, Sum.inr.injEq, Option.some.injEq, hS_2, k_isref, pd_0, pd_s, List.cons_append, List.nil_append, Option.toList_none, Option.toList_some, tX9_choose, rX9_choose, h1]
    refine cV (d' := 1) [] [vI ed] l_9_51 hm5 (e_edition hM (Nat.le_refl 1)) (by omega) (p_go [19] 40 ?_)
    simp only [st_0, st_1, st_2, st_3, st_4, st_5, st_6, st_7, st_8, st_9, st_10, st_11, st_12, st_13, st_14, st_15, st_16, st_17, st_18, st_19, st_20, st_21, st_22, st_23, st_24, st_25, st_26, st_27, st_28, st_29, st_30, st_31, st_32, st_33, st_34, st_34a, st_35, st_36, st_37, st_38, st_39, st_42, st_44, st_45, st_47, st_40, st_41, st_46, st_48, st_49, st_43, go_0, go_s, cut_0, cut_s, get_0, get_s, put_0, put_1, put_s, clr_0, clr_s, unl_i, unl_l, unl_r, unl_n, nth_0, nth_s, sf_0, sf_s, cnd_0, cnd_1, cnd_2, cnd_3, cnd_4, cnd_5, fit_0, fit_1, fit_2, en_0, en_i, en_l, en_r, kb_t, kb_f, kb_n, sw_0, sw_s, ↓reduceIte, Nat.reduceEqDiff, Nat.left_eq_add, Nat.add_eq_left, Nat.add_left_cancel_iff, Nat.reduceAdd, Int.reduceLT, Int.reduceLE, Int.reduceAdd, Int.reduceSub, Int.reduceNeg, Int.reduceMul, Int.reduceToNat, Int.reduceEq, reduceCtorEq, true_and, and_true, true_or, or_true, and_false, false_and, or_false, false_or, not_true_eq_false, not_false_eq_true, Nat.le_refl, and_self, Sum.inl.injEq, Sum.inr.injEq, Option.some.injEq, hS_2, k_isref, pd_0, pd_s, List.cons_append, List.nil_append, Option.toList_none, Option.toList_some, tX9_choose, rX9_choose]
    refine k_brI (fun c => ?_) (fun c => ?_)
    · rw [if_pos ⟨rfl, c⟩] at hF
      subst hF
      exact ⟨⟨rfl, by rw [h1, c], h5, h6, h7, fun z z1 z2 z3 z4 z5 => rfl⟩, hM⟩
    · exact hgo (fun q => c q.2)
  · have e0 : kn = 0 := by omega
    subst e0
    simp only [st_0, st_1, st_2, st_3, st_4, st_5, st_6, st_7, st_8, st_9, st_10, st_11, st_12, st_13, st_14, st_15, st_16, st_17, st_18, st_19, st_20, st_21, st_22, st_23, st_24, st_25, st_26, st_27, st_28, st_29, st_30, st_31, st_32, st_33, st_34, st_34a, st_35, st_36, st_37, st_38, st_39, st_42, st_44, st_45, st_47, st_40, st_41, st_46, st_48, st_49, st_43, go_0, go_s, cut_0, cut_s, get_0, get_s, put_0, put_1, put_s, clr_0, clr_s, unl_i, unl_l, unl_r, unl_n, nth_0, nth_s, sf_0, sf_s, cnd_0, cnd_1, cnd_2, cnd_3, cnd_4, cnd_5, fit_0, fit_1, fit_2, en_0, en_i, en_l, en_r, kb_t, kb_f, kb_n, sw_0, sw_s, ↓reduceIte, Nat.reduceEqDiff, Nat.left_eq_add, Nat.add_eq_left, Nat.add_left_cancel_iff, Nat.reduceAdd, Int.reduceLT, Int.reduceLE, Int.reduceAdd, Int.reduceSub, Int.reduceNeg, Int.reduceMul, Int.reduceToNat, Int.reduceEq, reduceCtorEq, true_and, and_true, true_or, or_true, and_false, false_and, or_false, false_or, not_true_eq_false, not_false_eq_true, Nat.le_refl, and_self, Sum.inl.injEq, Sum.inr.injEq, Option.some.injEq, hS_2, k_isref, pd_0, pd_s, List.cons_append, List.nil_append, Option.toList_none, Option.toList_some, tX9_choose, rX9_choose, h1]
    exact hgo (fun q => hk q.1)
end Choo42
