/-! Slots: distances measured -/
section Best41
variable {x : Bool} {d : Nat} {h h0 : PH} {q sz : Nat} {wo kn ed e : Int} {wl ws wn C : F_}
def Gq (h0 h : PH) (q : Nat) (G : F_) : Prop := h.1 = h0.1 ∧ h.2 (q + 5) = some (cI 1024 G) ∧ ∀ z, (8 < z ∨ z < 2) → z ≠ q + 5 → h.2 z = h0.2 z
abbrev gw (C wl ws : F_) (one other : Nat) : Int := rch 1000000 (ds (fw C) (sdf ws (one * 20)) (wl one).toNat (sdf ws (other * 20)) (wl other).toNat)
def msI (g : Nat → Int) (one b : Nat) : Nat → Nat → F_ → F_
  | 0, _, G => G
  | j + 1, w, G => msI g one b j (w + 1) (fS G (one * 32 + (b * 4 + w)) (g (b * 4 + w)))
def msB (g : Nat → Int) (wn : F_) (one : Nat) : Nat → Nat → F_ → F_
  | 0, _, G => G
  | j + 1, b, G => msB g wn one j (b + 1) (msI g one b (wn b).toNat 0 G)
set_option maxRecDepth 100000 in
set_option maxHeartbeats 4000000 in
theorem w_mwI {slot one b : Nat} (h1 : h0.2 q = some (slO q sz wo kn ed)) (hR : Rw h0 (q + 1) 20 32 wl ws) (hW : RwW 20 32 wl) (h4 : h0.2 (q + 4) = some (cI 8 wn)) (hwn : ∀ s : Nat, s < 8 → 0 ≤ wn s ∧ wn s ≤ 4) (hc : cOk C) (hv : ∀ s w : Nat, s < 8 → (w : Int) < wn s → rvd ws ((s * 4 + w) * 20) (wl (s * 4 + w))) (hb : b < 8) (hone : one < 32) (hd : 3 ≤ d) (hq : 8 < q) {P : PO → PH → Prop} : ∀ (j w : Nat) (G : F_) (h : PH), w + j = (wn b).toNat → Gq h0 h q G → Ml C e (wl one).toNat (sdf ws (one * 20)) h →
    (∀ h', Gq h0 h' q (msI (gw C wl ws one) one b j w G) → Ml C e (wl one).toNat (sdf ws (one * 20)) h' → k_Wp x d 0 0 mX9_measureWord P 0 0 72 [some (vR q), some (vI slot), some (vI one), some (vR 5), some (vI b), none, none] [] h') →
    k_Wp x d 0 0 mX9_measureWord P 0 0 21 [some (vR q), some (vI slot), some (vI one), some (vR 5), some (vI b), some (vI w), none] [] h := by
  have hw := hwn b hb
  intro j
  induction j with
  | zero =>
    intro w G h hwj hG hM hP
    have e1 : wn b ≤ (w : Int) := by omega
    obtain ⟨n1, n2, n3⟩ := id hG
    have k1 := (n3 q (by omega) (by omega)).trans h1
    have k4 := (n3 (q + 4) (by omega) (by omega)).trans h4
    refine p_go [72] 40 ?_
    simp only [st_0, st_1, st_2, st_3, st_4, st_5, st_6, st_7, st_8, st_9, st_10, st_11, st_12, st_13, st_14, st_15, st_16, st_17, st_18, st_19, st_20, st_21, st_22, st_23, st_24, st_25, st_26, st_27, st_28, st_29, st_30, st_31, st_32, st_33, st_34, st_34a, st_35, st_36, st_37, st_38, st_39, st_42, st_44, st_45, st_47, st_40, st_41, st_46, st_48, st_49, st_43, go_0, go_s, cut_0, cut_s, get_0, get_s, put_0, put_1, put_s, clr_0, clr_s, unl_i, unl_l, unl_r, unl_n, nth_0, nth_s, sf_0, sf_s, cnd_0, cnd_1, cnd_2, cnd_3, cnd_4, cnd_5, fit_0, fit_1, fit_2, en_0, en_i, en_l, en_r, kb_t, kb_f, kb_n, sw_0, sw_s, ↓reduceIte, Nat.reduceEqDiff, Nat.left_eq_add, Nat.add_eq_left, Nat.add_left_cancel_iff, Nat.reduceAdd, Int.reduceLT, Int.reduceLE, Int.reduceAdd, Int.reduceSub, Int.reduceNeg, Int.reduceMul, Int.reduceToNat, Int.reduceEq, reduceCtorEq, true_and, and_true, true_or, or_true, and_false, false_and, or_false, false_or, not_true_eq_false, not_false_eq_true, Nat.le_refl, and_self, Sum.inl.injEq, Sum.inr.injEq, Option.some.injEq, hS_2, k_isref, pd_0, pd_s, List.cons_append, List.nil_append, Option.toList_none, Option.toList_some, tX9_measureWord, rX9_measureWord, k1, k4, e1, Int.toNat_natCast]
    exact ⟨⟨by omega, by omega⟩, p_sub (by (repeat (first | exact le_nil | refine le_s ?_ | refine le_n ?_))) (hP h hG hM)⟩
  | succ j ih =>
    intro w G h hwj hG hM hP
    have e1 : ¬ wn b ≤ (w : Int) := by omega
    have e4 : (b : Int) * 4 + (w : Int) = ((b * 4 + w : Nat) : Int) := by omega
    have e5 : (one : Int) * 32 + ((b * 4 + w : Nat) : Int) = ((one * 32 + (b * 4 + w) : Nat) : Int) := by omega
    obtain ⟨n1, n2, n3⟩ := id hG
    have k1 := (n3 q (by omega) (by omega)).trans h1
    have k4 := (n3 (q + 4) (by omega) (by omega)).trans h4
    have kR : Rw h (q + 1) 20 32 wl ws := ⟨(n3 _ (by omega) (by omega)).trans hR.1, (n3 _ (by omega) (by omega)).trans hR.2.1, (n3 _ (by omega) (by omega)).trans hR.2.2⟩
    unfold msI at hP
    refine p_go [] 40 ?_
    simp only [st_0, st_1, st_2, st_3, st_4, st_5, st_6, st_7, st_8, st_9, st_10, st_11, st_12, st_13, st_14, st_15, st_16, st_17, st_18, st_19, st_20, st_21, st_22, st_23, st_24, st_25, st_26, st_27, st_28, st_29, st_30, st_31, st_32, st_33, st_34, st_34a, st_35, st_36, st_37, st_38, st_39, st_42, st_44, st_45, st_47, st_40, st_41, st_46, st_48, st_49, st_43, go_0, go_s, cut_0, cut_s, get_0, get_s, put_0, put_1, put_s, clr_0, clr_s, unl_i, unl_l, unl_r, unl_n, nth_0, nth_s, sf_0, sf_s, cnd_0, cnd_1, cnd_2, cnd_3, cnd_4, cnd_5, fit_0, fit_1, fit_2, en_0, en_i, en_l, en_r, kb_t, kb_f, kb_n, sw_0, sw_s, ↓reduceIte, Nat.reduceEqDiff, Nat.left_eq_add, Nat.add_eq_left, Nat.add_left_cancel_iff, Nat.reduceAdd, Int.reduceLT, Int.reduceLE, Int.reduceAdd, Int.reduceSub, Int.reduceNeg, Int.reduceMul, Int.reduceToNat, Int.reduceEq, reduceCtorEq, true_and, and_true, true_or, or_true, and_false, false_and, or_false, false_or, not_true_eq_false, not_false_eq_true, Nat.le_refl, and_self, Sum.inl.injEq, Sum.inr.injEq, Option.some.injEq, hS_2, k_isref, pd_0, pd_s, List.cons_append, List.nil_append, Option.toList_none, Option.toList_some, tX9_measureWord, rX9_measureWord, k1, k4, e1, e4, e5, Int.toNat_natCast]
    refine ⟨⟨by omega, by omega⟩, ⟨by omega, by omega⟩, ⟨by omega, by omega⟩, ⟨by omega, by omega⟩, ⟨by omega, by omega⟩, ?_⟩
    obtain ⟨lo5, hi5, h5⟩ := hM.2.o5
    refine cVQ (d' := 2) [vR (q + 1), vI ((b * 4 + w : Nat) : Int), vI 1000000] [vI ((one * 32 + (b * 4 + w) : Nat) : Int), vR (q + 5)] l_9_82 h5 (e_reach' hM hc kR hW (by omega) (by omega) (by omega) (hv b w hb (by omega)) (by omega) (Nat.le_refl 2)) (by omega) ?_ (fun E h' q => by cases q.1)
    intro r1 h2 ⟨q1, q2, q3⟩
    cases q1
    have k5 : h2.2 (q + 5) = some (cI 1024 G) := (q3.2 _ (by omega)).trans n2
    refine p_go [21] 40 ?_
    simp only [st_0, st_1, st_2, st_3, st_4, st_5, st_6, st_7, st_8, st_9, st_10, st_11, st_12, st_13, st_14, st_15, st_16, st_17, st_18, st_19, st_20, st_21, st_22, st_23, st_24, st_25, st_26, st_27, st_28, st_29, st_30, st_31, st_32, st_33, st_34, st_34a, st_35, st_36, st_37, st_38, st_39, st_42, st_44, st_45, st_47, st_40, st_41, st_46, st_48, st_49, st_43, go_0, go_s, cut_0, cut_s, get_0, get_s, put_0, put_1, put_s, clr_0, clr_s, unl_i, unl_l, unl_r, unl_n, nth_0, nth_s, sf_0, sf_s, cnd_0, cnd_1, cnd_2, cnd_3, cnd_4, cnd_5, fit_0, fit_1, fit_2, en_0, en_i, en_l, en_r, kb_t, kb_f, kb_n, sw_0, sw_s, ↓reduceIte, Nat.reduceEqDiff, Nat.left_eq_add, Nat.add_eq_left, Nat.add_left_cancel_iff, Nat.reduceAdd, Int.reduceLT, Int.reduceLE, Int.reduceAdd, Int.reduceSub, Int.reduceNeg, Int.reduceMul, Int.reduceToNat, Int.reduceEq, reduceCtorEq, true_and, and_true, true_or, or_true, and_false, false_and, or_false, false_or, not_true_eq_false, not_false_eq_true, Nat.le_refl, and_self, Sum.inl.injEq, Sum.inr.injEq, Option.some.injEq, hS_2, k_isref, pd_0, pd_s, List.cons_append, List.nil_append, Option.toList_none, Option.toList_some, tX9_measureWord, rX9_measureWord, k5, nat1, Int.toNat_natCast]
    refine ⟨⟨by omega, by omega⟩, ⟨by omega, by omega⟩, p_sub (by (repeat (first | exact le_nil | refine le_s ?_ | refine le_n ?_))) (ih (w + 1) _ _ (by omega) ⟨q3.1.trans n1, hS_s _ _ _, fun z z1 z2 => (hS_n z2).trans ((q3.2 z z1).trans (n3 z z1 z2))⟩ (q2.off (by omega)) hP)⟩
set_option maxRecDepth 100000 in
set_option maxHeartbeats 4000000 in
theorem w_mwB {slot one : Nat} (h1 : h0.2 q = some (slO q sz wo kn ed)) (hR : Rw h0 (q + 1) 20 32 wl ws) (hW : RwW 20 32 wl) (h4 : h0.2 (q + 4) = some (cI 8 wn)) (hwn : ∀ s : Nat, s < 8 → 0 ≤ wn s ∧ wn s ≤ 4) (hc : cOk C) (hv : ∀ s w : Nat, s < 8 → (w : Int) < wn s → rvd ws ((s * 4 + w) * 20) (wl (s * 4 + w))) (hsl : slot ≤ 8) (hone : one < 32) (hd : 3 ≤ d) (hq : 8 < q) : ∀ (j b : Nat) (G : F_) (h : PH), b + j = slot → Gq h0 h q G → Ml C e (wl one).toNat (sdf ws (one * 20)) h →
    k_Wp x d 0 0 mX9_measureWord (fun o h' => o = rV ∧ Gq h0 h' q (msB (gw C wl ws one) wn one j b G) ∧ Mq C e h') 0 0 12 [some (vR q), some (vI slot), some (vI one), some (vR 5), some (vI b), none, none] [] h := by
  intro j
  induction j with
  | zero =>
    intro b G h hb hG hM
    have e1 : (slot : Int) ≤ b := by omega
    refine p_go [] 40 ?_
    simp only [st_0, st_1, st_2, st_3, st_4, st_5, st_6, st_7, st_8, st_9, st_10, st_11, st_12, st_13, st_14, st_15, st_16, st_17, st_18, st_19, st_20, st_21, st_22, st_23, st_24, st_25, st_26, st_27, st_28, st_29, st_30, st_31, st_32, st_33, st_34, st_34a, st_35, st_36, st_37, st_38, st_39, st_42, st_44, st_45, st_47, st_40, st_41, st_46, st_48, st_49, st_43, go_0, go_s, cut_0, cut_s, get_0, get_s, put_0, put_1, put_s, clr_0, clr_s, unl_i, unl_l, unl_r, unl_n, nth_0, nth_s, sf_0, sf_s, cnd_0, cnd_1, cnd_2, cnd_3, cnd_4, cnd_5, fit_0, fit_1, fit_2, en_0, en_i, en_l, en_r, kb_t, kb_f, kb_n, sw_0, sw_s, ↓reduceIte, Nat.reduceEqDiff, Nat.left_eq_add, Nat.add_eq_left, Nat.add_left_cancel_iff, Nat.reduceAdd, Int.reduceLT, Int.reduceLE, Int.reduceAdd, Int.reduceSub, Int.reduceNeg, Int.reduceMul, Int.reduceToNat, Int.reduceEq, reduceCtorEq, true_and, and_true, true_or, or_true, and_false, false_and, or_false, false_or, not_true_eq_false, not_false_eq_true, Nat.le_refl, and_self, Sum.inl.injEq, Sum.inr.injEq, Option.some.injEq, hS_2, k_isref, pd_0, pd_s, List.cons_append, List.nil_append, Option.toList_none, Option.toList_some, tX9_measureWord, rX9_measureWord, e1]
    exact ⟨hG, hM.q⟩
  | succ j ih =>
    intro b G h hb hG hM
    have e1 : ¬ (slot : Int) ≤ b := by omega
    unfold msB
    refine p_go [21] 40 ?_
    simp only [st_0, st_1, st_2, st_3, st_4, st_5, st_6, st_7, st_8, st_9, st_10, st_11, st_12, st_13, st_14, st_15, st_16, st_17, st_18, st_19, st_20, st_21, st_22, st_23, st_24, st_25, st_26, st_27, st_28, st_29, st_30, st_31, st_32, st_33, st_34, st_34a, st_35, st_36, st_37, st_38, st_39, st_42, st_44, st_45, st_47, st_40, st_41, st_46, st_48, st_49, st_43, go_0, go_s, cut_0, cut_s, get_0, get_s, put_0, put_1, put_s, clr_0, clr_s, unl_i, unl_l, unl_r, unl_n, nth_0, nth_s, sf_0, sf_s, cnd_0, cnd_1, cnd_2, cnd_3, cnd_4, cnd_5, fit_0, fit_1, fit_2, en_0, en_i, en_l, en_r, kb_t, kb_f, kb_n, sw_0, sw_s, ↓reduceIte, Nat.reduceEqDiff, Nat.left_eq_add, Nat.add_eq_left, Nat.add_left_cancel_iff, Nat.reduceAdd, Int.reduceLT, Int.reduceLE, Int.reduceAdd, Int.reduceSub, Int.reduceNeg, Int.reduceMul, Int.reduceToNat, Int.reduceEq, reduceCtorEq, true_and, and_true, true_or, or_true, and_false, false_and, or_false, false_or, not_true_eq_false, not_false_eq_true, Nat.le_refl, and_self, Sum.inl.injEq, Sum.inr.injEq, Option.some.injEq, hS_2, k_isref, pd_0, pd_s, List.cons_append, List.nil_append, Option.toList_none, Option.toList_some, tX9_measureWord, rX9_measureWord, e1]
    refine w_mwI h1 hR hW h4 hwn hc hv (by omega) hone hd hq (wn b).toNat 0 G h (by omega) hG hM (fun h' hG' hM' => ?_)
    refine p_go [12] 40 ?_
    simp only [st_0, st_1, st_2, st_3, st_4, st_5, st_6, st_7, st_8, st_9, st_10, st_11, st_12, st_13, st_14, st_15, st_16, st_17, st_18, st_19, st_20, st_21, st_22, st_23, st_24, st_25, st_26, st_27, st_28, st_29, st_30, st_31, st_32, st_33, st_34, st_34a, st_35, st_36, st_37, st_38, st_39, st_42, st_44, st_45, st_47, st_40, st_41, st_46, st_48, st_49, st_43, go_0, go_s, cut_0, cut_s, get_0, get_s, put_0, put_1, put_s, clr_0, clr_s, unl_i, unl_l, unl_r, unl_n, nth_0, nth_s, sf_0, sf_s, cnd_0, cnd_1, cnd_2, cnd_3, cnd_4, cnd_5, fit_0, fit_1, fit_2, en_0, en_i, en_l, en_r, kb_t, kb_f, kb_n, sw_0, sw_s, ↓reduceIte, Nat.reduceEqDiff, Nat.left_eq_add, Nat.add_eq_left, Nat.add_left_cancel_iff, Nat.reduceAdd, Int.reduceLT, Int.reduceLE, Int.reduceAdd, Int.reduceSub, Int.reduceNeg, Int.reduceMul, Int.reduceToNat, Int.reduceEq, reduceCtorEq, true_and, and_true, true_or, or_true, and_false, false_and, or_false, false_or, not_true_eq_false, not_false_eq_true, Nat.le_refl, and_self, Sum.inl.injEq, Sum.inr.injEq, Option.some.injEq, hS_2, k_isref, pd_0, pd_s, List.cons_append, List.nil_append, Option.toList_none, Option.toList_some, tX9_measureWord, rX9_measureWord, nat1]
    exact ⟨⟨by omega, by omega⟩, ih (b + 1) _ h' (by omega) hG' hM'⟩
set_option maxRecDepth 100000 in
set_option maxHeartbeats 4000000 in
theorem e_measureWord {slot one : Nat} {G : F_} (h1 : h0.2 q = some (slO q sz wo kn ed)) (hR : Rw h0 (q + 1) 20 32 wl ws) (hW : RwW 20 32 wl) (h4 : h0.2 (q + 4) = some (cI 8 wn)) (hwn : ∀ s : Nat, s < 8 → 0 ≤ wn s ∧ wn s ≤ 4) (hc : cOk C) (hv : ∀ s w : Nat, s < 8 → (w : Int) < wn s → rvd ws ((s * 4 + w) * 20) (wl (s * 4 + w))) (hsl : slot ≤ 8) (hone : one < 32) (hvo : rvd ws (one * 20) (wl one)) (hd : 3 ≤ d) (hq : 8 < q) (hG : Gq h0 h q G) (hM : Mq C e h) :
    k_Ev x d 0 0 mX9_measureWord [vR q, vI slot, vI one, vR 5] h (fun o h' => o = rV ∧ Gq h0 h' q (msB (gw C wl ws one) wn one slot 0 G) ∧ Mq C e h') := by
  obtain ⟨n1, n2, n3⟩ := id hG
  have k1 := (n3 q (by omega) (by omega)).trans h1
  have kR : Rw h (q + 1) 20 32 wl ws := ⟨(n3 _ (by omega) (by omega)).trans hR.1, (n3 _ (by omega) (by omega)).trans hR.2.1, (n3 _ (by omega) (by omega)).trans hR.2.2⟩
  obtain ⟨Nr, s, c1, c2, c3, w0, lo0, hi0, ac0, fl0, ln0, h5, hrest⟩ := id hM
  refine k_enp 3 (Nat.le_of_ble_eq_true rfl) (p_go [] 40 ?_)
  simp only [st_0, st_1, st_2, st_3, st_4, st_5, st_6, st_7, st_8, st_9, st_10, st_11, st_12, st_13, st_14, st_15, st_16, st_17, st_18, st_19, st_20, st_21, st_22, st_23, st_24, st_25, st_26, st_27, st_28, st_29, st_30, st_31, st_32, st_33, st_34, st_34a, st_35, st_36, st_37, st_38, st_39, st_42, st_44, st_45, st_47, st_40, st_41, st_46, st_48, st_49, st_43, go_0, go_s, cut_0, cut_s, get_0, get_s, put_0, put_1, put_s, clr_0, clr_s, unl_i, unl_l, unl_r, unl_n, nth_0, nth_s, sf_0, sf_s, cnd_0, cnd_1, cnd_2, cnd_3, cnd_4, cnd_5, fit_0, fit_1, fit_2, en_0, en_i, en_l, en_r, kb_t, kb_f, kb_n, sw_0, sw_s, ↓reduceIte, Nat.reduceEqDiff, Nat.left_eq_add, Nat.add_eq_left, Nat.add_left_cancel_iff, Nat.reduceAdd, Int.reduceLT, Int.reduceLE, Int.reduceAdd, Int.reduceSub, Int.reduceNeg, Int.reduceMul, Int.reduceToNat, Int.reduceEq, reduceCtorEq, true_and, and_true, true_or, or_true, and_false, false_and, or_false, false_or, not_true_eq_false, not_false_eq_true, Nat.le_refl, and_self, Sum.inl.injEq, Sum.inr.injEq, Option.some.injEq, hS_2, k_isref, pd_0, pd_s, List.cons_append, List.nil_append, Option.toList_none, Option.toList_some, tX9_measureWord, rX9_measureWord, k1]
  refine cVQ (d' := 2) [vR (q + 1), vI one] [] l_9_78 h5 (e_lay' hM hc kR hW hone (by omega) (by omega) hvo (Nat.le_refl 2)) (by omega) ?_ (fun E h' q => by cases q.1)
  intro r1 h2 ⟨q1, q2, q3⟩
  cases q1
  refine p_go [12] 40 ?_
  simp only [st_0, st_1, st_2, st_3, st_4, st_5, st_6, st_7, st_8, st_9, st_10, st_11, st_12, st_13, st_14, st_15, st_16, st_17, st_18, st_19, st_20, st_21, st_22, st_23, st_24, st_25, st_26, st_27, st_28, st_29, st_30, st_31, st_32, st_33, st_34, st_34a, st_35, st_36, st_37, st_38, st_39, st_42, st_44, st_45, st_47, st_40, st_41, st_46, st_48, st_49, st_43, go_0, go_s, cut_0, cut_s, get_0, get_s, put_0, put_1, put_s, clr_0, clr_s, unl_i, unl_l, unl_r, unl_n, nth_0, nth_s, sf_0, sf_s, cnd_0, cnd_1, cnd_2, cnd_3, cnd_4, cnd_5, fit_0, fit_1, fit_2, en_0, en_i, en_l, en_r, kb_t, kb_f, kb_n, sw_0, sw_s, ↓reduceIte, Nat.reduceEqDiff, Nat.left_eq_add, Nat.add_eq_left, Nat.add_left_cancel_iff, Nat.reduceAdd, Int.reduceLT, Int.reduceLE, Int.reduceAdd, Int.reduceSub, Int.reduceNeg, Int.reduceMul, Int.reduceToNat, Int.reduceEq, reduceCtorEq, true_and, and_true, true_or, or_true, and_false, false_and, or_false, false_or, not_true_eq_false, not_false_eq_true, Nat.le_refl, and_self, Sum.inl.injEq, Sum.inr.injEq, Option.some.injEq, hS_2, k_isref, pd_0, pd_s, List.cons_append, List.nil_append, Option.toList_none, Option.toList_some, tX9_measureWord, rX9_measureWord]
  exact w_mwB h1 hR hW h4 hwn hc hv hsl hone hd hq slot 0 G h2 (by omega) ⟨q3.1.trans n1, (q3.2 _ (by omega)).trans n2, fun z z1 z2 => (q3.2 z z1).trans (n3 z z1 z2)⟩ q2
end Best41
