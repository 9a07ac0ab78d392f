/-! the reference: parsing; spelling -/
section Mgram76
variable {x : Bool} {d : Nat} {h h0 : PH} {s t : F_} {P : PO → PH → Prop} {R E : LxT} {f g : F_} {en : Nat}
/-- while it parses, all else is as it was -/
def MF (h0 h : PH) (s t : F_) : Prop := h.1 = h0.1 ∧ h.2 57 = some (mO t) ∧ (∀ i, i ≠ 21 → (i < 30 ∨ 34 < i) → t i = s i) ∧ (∃ a, h.2 71 = some (cI 40 a)) ∧ (∃ a, h.2 72 = some (cI 400 a)) ∧ (∃ a, h.2 73 = some (cI 20 a)) ∧ (∃ a, h.2 74 = some (cI 20 a)) ∧ (∃ a, h.2 75 = some (cI 20 a)) ∧ (∃ a, h.2 76 = some (cI 8 a)) ∧ (∃ a, h.2 77 = some (cI 8 a)) ∧ (∃ a, h.2 78 = some (cI 8 a)) ∧ (∃ a, h.2 79 = some (.inl (2, 8, a))) ∧ ∀ z, z ≠ 57 → (z < 71 ∨ 79 < z) → h.2 z = h0.2 z
theorem MF.put {u : F_} (hF : MF h0 h s t) (hu : ∀ i, i ≠ 21 → (i < 30 ∨ 34 < i) → u i = t i) : MF h0 (hS h 57 (mO u)) s u := by
  obtain ⟨m1, m2, m3, ⟨a6, m4⟩, ⟨a7, m5⟩, ⟨a8, m6⟩, ⟨a9, m7⟩, ⟨a10, m8⟩, ⟨a11, m9⟩, ⟨a12, m10⟩, ⟨a13, m11⟩, ⟨a14, m12⟩, m13⟩ := hF
  exact ⟨m1, hS_s _ _ _, fun i i1 i2 => (hu i i1 i2).trans (m3 i i1 i2), ⟨a6, (hS_n (by decide)).trans m4⟩, ⟨a7, (hS_n (by decide)).trans m5⟩, ⟨a8, (hS_n (by decide)).trans m6⟩, ⟨a9, (hS_n (by decide)).trans m7⟩, ⟨a10, (hS_n (by decide)).trans m8⟩, ⟨a11, (hS_n (by decide)).trans m9⟩, ⟨a12, (hS_n (by decide)).trans m10⟩, ⟨a13, (hS_n (by decide)).trans m11⟩, ⟨a14, (hS_n (by decide)).trans m12⟩, fun z z1 z2 => (hS_n z1).trans (m13 z z1 z2)⟩
/-- the words and points taken so far, as the reference holds them -/
def MW (h : PH) (S : PS) : Prop := ∃ ss sm sp sa, h.2 72 = some (cI 400 ss) ∧ h.2 73 = some (cI 20 sm) ∧ h.2 74 = some (cI 20 sp) ∧ h.2 75 = some (cI 20 sa) ∧ ∀ k, k < S.2.1.1 → sm k = S.2.2.1.1 k ∧ (∀ i : Nat, (i : Int) < S.2.2.1.1 k → ss (20 * k + i) = S.2.2.1.2.1 (k * 20 + i)) ∧ sp k = S.2.2.1.2.2.1 k ∧ sa k = S.2.2.1.2.2.2 k
def MQp (h : PH) (S : PS) (pl : F_) : Prop := h.2 78 = some (cI 8 pl) ∧ ∃ pp pa pm, h.2 76 = some (cI 8 pp) ∧ h.2 77 = some (cI 8 pa) ∧ h.2 79 = some (.inl (2, 8, pm)) ∧ ∀ k, k < S.2.1.2 → pp k = S.2.2.2.1.1 k ∧ pa k = S.2.2.2.1.2.1 k ∧ pm k = S.2.2.2.1.2.2.2 k
theorem MW.fr {h' : PH} {S : PS} (hf : ∀ z, 72 ≤ z → z ≤ 75 → h'.2 z = h.2 z) (hW : MW h S) : MW h' S := by
  obtain ⟨a, b, c, e, m1, m2, m3, m4, m5⟩ := hW
  exact ⟨a, b, c, e, (hf _ (by omega) (by omega)).trans m1, (hf _ (by omega) (by omega)).trans m2, (hf _ (by omega) (by omega)).trans m3, (hf _ (by omega) (by omega)).trans m4, m5⟩
theorem MQp.fr {h' : PH} {S : PS} {pl : F_} (hf : ∀ z, 76 ≤ z → z ≤ 79 → h'.2 z = h.2 z) (hW : MQp h S pl) : MQp h' S pl := by
  obtain ⟨m0, a, b, c, m1, m2, m3, m4⟩ := hW
  exact ⟨(hf _ (by omega) (by omega)).trans m0, a, b, c, (hf _ (by omega) (by omega)).trans m1, (hf _ (by omega) (by omega)).trans m2, (hf _ (by omega) (by omega)).trans m3, m4⟩
/-- the reference stands where the parse stands: at rc, with S -/
def MP (h0 h : PH) (s t : F_) (rc : Nat) (S : PS) (pl : F_) : Prop := MF h0 h s t ∧ t 32 = rc ∧ t 30 = S.2.1.1 ∧ t 31 = S.2.1.2 ∧ t 33 = 0 ∧ MW h S ∧ MQp h S pl
theorem MF.lx (hF : MF h0 h s t) (hM : MLx h0 s g R E) : MLx h t g R E := by
  obtain ⟨m1, ⟨sd, m2⟩, m3, m4, ⟨L, ln, S, mn, a1, a2, a3, a4, a5⟩, ⟨L', ln', S', mn', b1, b2, b3, b4, b5⟩⟩ := hM
  have hf := fun z z1 z2 => hF.2.2.2.2.2.2.2.2.2.2.2.2 z z1 z2
  have ht := hF.2.2.1
  exact ⟨(hf _ (by omega) (by omega)).trans m1, hF.2.2.2.1, (ht 14 (by omega) (by omega)).trans m3, (ht 19 (by omega) (by omega)).trans m4, ⟨L, ln, S, mn, (hf _ (by omega) (by omega)).trans a1, (hf _ (by omega) (by omega)).trans a2, (hf _ (by omega) (by omega)).trans a3, (hf _ (by omega) (by omega)).trans a4, a5⟩, ⟨L', ln', S', mn', (hf _ (by omega) (by omega)).trans b1, (hf _ (by omega) (by omega)).trans b2, (hf _ (by omega) (by omega)).trans b3, (hf _ (by omega) (by omega)).trans b4, b5⟩⟩
/-- a fault was found: the parse's own -/
def FQ (h0 h : PH) (s : F_) (V : Int × Int) : Prop := ∃ t, MF h0 h s t ∧ (0 ≤ t 32 ∧ t 32 ≤ s 9) ∧ 0 < t 33 ∧ V = (t 33, t 34)
set_option maxRecDepth 100000 in
set_option maxHeartbeats 4000000 in
theorem w_spL {point alt : Int} {fr : Nat} (h77 : h.2 62 = some (.inl (1, 400, g))) (h9 : t 9 = en) (hen : en ≤ 400) (hfg : ∀ k, k < en → f k = g k % 256) (hd : 1 ≤ d)
    {b : Nat} (kk : k_Wp x d 0 0 mX12_spelling P 0 0 32 [some (vR 57), some (vI point), some (vI alt), some (vI fr), none, none] [] (hS h 57 (mO (mS t 32 b)))) : ∀ (j rc : Nat), rc + j = en → bhd f j rc = b →
    k_Wp x d 0 0 mX12_spelling P 0 0 5 [some (vR 57), some (vI point), some (vI alt), some (vI fr), none, none] [] (hS h 57 (mO (mS t 32 rc))) := by
  intro j
  induction j with
  | zero =>
    intro rc hj he
    have he : rc = b := he
    subst he
    have k1 : (hS h 57 (mO (mS t 32 rc))).2 57 = some (mO (mS t 32 rc)) := hS_s _ _ _
    have k2 : (hS h 57 (mO (mS t 32 rc))).2 62 = some (.inl (1, 400, g)) := (hS_n (by decide)).trans h77
    have e9 : mS t 32 rc 9 = en := h9
    have e32 : mS t 32 rc 32 = (rc : Int) := rfl
    have hev := e_byteAt (x := x) (d := 0) (k := rc) k1 k2 (by rw [e9]; omega)
    rw [e9, if_neg (by omega)] at hev
    generalize hS h 57 (mO (mS t 32 rc)) = h3 at k1 kk hev ⊢
    refine p_go [] 40 ?_
    simp only [st_0, st_1, st_2, st_3, st_4, st_5, st_6, st_7, st_8, st_9, st_10, st_11, st_12, st_13, st_14, st_15, st_16, st_17, st_18, st_19, st_20, st_21, st_22, st_23, st_24, st_25, st_26, st_27, st_28, st_29, st_30, st_31, st_32, st_33, st_34, st_34a, st_35, st_36, st_37, st_38, st_39, st_42, st_44, st_45, st_47, st_40, st_41, st_46, st_48, st_49, st_43, go_0, go_s, cut_0, cut_s, get_0, get_s, put_0, put_1, put_s, clr_0, clr_s, unl_i, unl_l, unl_r, unl_n, nth_0, nth_s, sf_0, sf_s, cnd_0, cnd_1, cnd_2, cnd_3, cnd_4, cnd_5, fit_0, fit_1, fit_2, en_0, en_i, en_l, en_r, kb_t, kb_f, kb_n, sw_0, sw_s, ↓reduceIte, Nat.reduceEqDiff, Nat.left_eq_add, Nat.add_eq_left, Nat.add_left_cancel_iff, Nat.reduceAdd, Int.reduceLT, Int.reduceLE, Int.reduceAdd, Int.reduceSub, Int.reduceNeg, Int.reduceMul, Int.reduceToNat, Int.reduceEq, reduceCtorEq, true_and, and_true, true_or, or_true, and_false, false_and, or_false, false_or, not_true_eq_false, not_false_eq_true, Nat.le_refl, and_self, Sum.inl.injEq, Sum.inr.injEq, Option.some.injEq, hS_2, k_isref, pd_0, pd_s, List.cons_append, List.nil_append, Option.toList_none, Option.toList_some, tX12_spelling, rX12_spelling, k1, e32]
    refine cV (d' := 0) [vI rc] [] l_12_146 k1 hev (by omega) (p_go [] 40 ?_)
    simp only [st_0, st_1, st_2, st_3, st_4, st_5, st_6, st_7, st_8, st_9, st_10, st_11, st_12, st_13, st_14, st_15, st_16, st_17, st_18, st_19, st_20, st_21, st_22, st_23, st_24, st_25, st_26, st_27, st_28, st_29, st_30, st_31, st_32, st_33, st_34, st_34a, st_35, st_36, st_37, st_38, st_39, st_42, st_44, st_45, st_47, st_40, st_41, st_46, st_48, st_49, st_43, go_0, go_s, cut_0, cut_s, get_0, get_s, put_0, put_1, put_s, clr_0, clr_s, unl_i, unl_l, unl_r, unl_n, nth_0, nth_s, sf_0, sf_s, cnd_0, cnd_1, cnd_2, cnd_3, cnd_4, cnd_5, fit_0, fit_1, fit_2, en_0, en_i, en_l, en_r, kb_t, kb_f, kb_n, sw_0, sw_s, ↓reduceIte, Nat.reduceEqDiff, Nat.left_eq_add, Nat.add_eq_left, Nat.add_left_cancel_iff, Nat.reduceAdd, Int.reduceLT, Int.reduceLE, Int.reduceAdd, Int.reduceSub, Int.reduceNeg, Int.reduceMul, Int.reduceToNat, Int.reduceEq, reduceCtorEq, true_and, and_true, true_or, or_true, and_false, false_and, or_false, false_or, not_true_eq_false, not_false_eq_true, Nat.le_refl, and_self, Sum.inl.injEq, Sum.inr.injEq, Option.some.injEq, hS_2, k_isref, pd_0, pd_s, List.cons_append, List.nil_append, Option.toList_none, Option.toList_some, tX12_spelling, rX12_spelling]
    refine cS (d' := 0) [vI 0] [] l_12_150 (e_mletter _) (by omega) (p_go [32] 40 ?_)
    rw [if_neg (by decide)]
    simp only [st_0, st_1, st_2, st_3, st_4, st_5, st_6, st_7, st_8, st_9, st_10, st_11, st_12, st_13, st_14, st_15, st_16, st_17, st_18, st_19, st_20, st_21, st_22, st_23, st_24, st_25, st_26, st_27, st_28, st_29, st_30, st_31, st_32, st_33, st_34, st_34a, st_35, st_36, st_37, st_38, st_39, st_42, st_44, st_45, st_47, st_40, st_41, st_46, st_48, st_49, st_43, go_0, go_s, cut_0, cut_s, get_0, get_s, put_0, put_1, put_s, clr_0, clr_s, unl_i, unl_l, unl_r, unl_n, nth_0, nth_s, sf_0, sf_s, cnd_0, cnd_1, cnd_2, cnd_3, cnd_4, cnd_5, fit_0, fit_1, fit_2, en_0, en_i, en_l, en_r, kb_t, kb_f, kb_n, sw_0, sw_s, ↓reduceIte, Nat.reduceEqDiff, Nat.left_eq_add, Nat.add_eq_left, Nat.add_left_cancel_iff, Nat.reduceAdd, Int.reduceLT, Int.reduceLE, Int.reduceAdd, Int.reduceSub, Int.reduceNeg, Int.reduceMul, Int.reduceToNat, Int.reduceEq, reduceCtorEq, true_and, and_true, true_or, or_true, and_false, false_and, or_false, false_or, not_true_eq_false, not_false_eq_true, Nat.le_refl, and_self, Sum.inl.injEq, Sum.inr.injEq, Option.some.injEq, hS_2, k_isref, pd_0, pd_s, List.cons_append, List.nil_append, Option.toList_none, Option.toList_some, tX12_spelling, rX12_spelling]
    exact kk
  | succ j ih =>
    intro rc hj he
    have k1 : (hS h 57 (mO (mS t 32 rc))).2 57 = some (mO (mS t 32 rc)) := hS_s _ _ _
    have k2 : (hS h 57 (mO (mS t 32 rc))).2 62 = some (.inl (1, 400, g)) := (hS_n (by decide)).trans h77
    have e9 : mS t 32 rc 9 = en := h9
    have e32 : mS t 32 rc 32 = (rc : Int) := rfl
    have hev := e_byteAt (x := x) (d := 0) (k := rc) k1 k2 (by rw [e9]; omega)
    rw [e9, if_pos (by omega), ← hfg rc (by omega)] at hev
    unfold bhd at he
    by_cases hl : lt_ (f rc)
    · rw [if_pos hl] at he
      have hih := ih (rc + 1) (by omega) he
      have hm : mO (mS t 32 ((rc + 1 : Nat) : Int)) = mO (mS (mS t 32 rc) 32 ((rc : Int) + 1)) := by rw [mS_mS, nat1]
      rw [hm, ← hS_hS (c := mO (mS t 32 rc))] at hih
      generalize hS h 57 (mO (mS t 32 rc)) = h3 at k1 hih hev ⊢
      refine p_go [] 40 ?_
      simp only [st_0, st_1, st_2, st_3, st_4, st_5, st_6, st_7, st_8, st_9, st_10, st_11, st_12, st_13, st_14, st_15, st_16, st_17, st_18, st_19, st_20, st_21, st_22, st_23, st_24, st_25, st_26, st_27, st_28, st_29, st_30, st_31, st_32, st_33, st_34, st_34a, st_35, st_36, st_37, st_38, st_39, st_42, st_44, st_45, st_47, st_40, st_41, st_46, st_48, st_49, st_43, go_0, go_s, cut_0, cut_s, get_0, get_s, put_0, put_1, put_s, clr_0, clr_s, unl_i, unl_l, unl_r, unl_n, nth_0, nth_s, sf_0, sf_s, cnd_0, cnd_1, cnd_2, cnd_3, cnd_4, cnd_5, fit_0, fit_1, fit_2, en_0, en_i, en_l, en_r, kb_t, kb_f, kb_n, sw_0, sw_s, ↓reduceIte, Nat.reduceEqDiff, Nat.left_eq_add, Nat.add_eq_left, Nat.add_left_cancel_iff, Nat.reduceAdd, Int.reduceLT, Int.reduceLE, Int.reduceAdd, Int.reduceSub, Int.reduceNeg, Int.reduceMul, Int.reduceToNat, Int.reduceEq, reduceCtorEq, true_and, and_true, true_or, or_true, and_false, false_and, or_false, false_or, not_true_eq_false, not_false_eq_true, Nat.le_refl, and_self, Sum.inl.injEq, Sum.inr.injEq, Option.some.injEq, hS_2, k_isref, pd_0, pd_s, List.cons_append, List.nil_append, Option.toList_none, Option.toList_some, tX12_spelling, rX12_spelling, k1, e32]
      refine cV (d' := 0) [vI rc] [] l_12_146 k1 hev (by omega) (p_go [] 40 ?_)
      simp only [st_0, st_1, st_2, st_3, st_4, st_5, st_6, st_7, st_8, st_9, st_10, st_11, st_12, st_13, st_14, st_15, st_16, st_17, st_18, st_19, st_20, st_21, st_22, st_23, st_24, st_25, st_26, st_27, st_28, st_29, st_30, st_31, st_32, st_33, st_34, st_34a, st_35, st_36, st_37, st_38, st_39, st_42, st_44, st_45, st_47, st_40, st_41, st_46, st_48, st_49, st_43, go_0, go_s, cut_0, cut_s, get_0, get_s, put_0, put_1, put_s, clr_0, clr_s, unl_i, unl_l, unl_r, unl_n, nth_0, nth_s, sf_0, sf_s, cnd_0, cnd_1, cnd_2, cnd_3, cnd_4, cnd_5, fit_0, fit_1, fit_2, en_0, en_i, en_l, en_r, kb_t, kb_f, kb_n, sw_0, sw_s, ↓reduceIte, Nat.reduceEqDiff, Nat.left_eq_add, Nat.add_eq_left, Nat.add_left_cancel_iff, Nat.reduceAdd, Int.reduceLT, Int.reduceLE, Int.reduceAdd, Int.reduceSub, Int.reduceNeg, Int.reduceMul, Int.reduceToNat, Int.reduceEq, reduceCtorEq, true_and, and_true, true_or, or_true, and_false, false_and, or_false, false_or, not_true_eq_false, not_false_eq_true, Nat.le_refl, and_self, Sum.inl.injEq, Sum.inr.injEq, Option.some.injEq, hS_2, k_isref, pd_0, pd_s, List.cons_append, List.nil_append, Option.toList_none, Option.toList_some, tX12_spelling, rX12_spelling]
      refine cS (d' := 0) [vI (f rc)] [] l_12_150 (e_mletter _) (by omega) (p_go [5] 40 ?_)
      rw [if_pos hl]
      simp only [st_0, st_1, st_2, st_3, st_4, st_5, st_6, st_7, st_8, st_9, st_10, st_11, st_12, st_13, st_14, st_15, st_16, st_17, st_18, st_19, st_20, st_21, st_22, st_23, st_24, st_25, st_26, st_27, st_28, st_29, st_30, st_31, st_32, st_33, st_34, st_34a, st_35, st_36, st_37, st_38, st_39, st_42, st_44, st_45, st_47, st_40, st_41, st_46, st_48, st_49, st_43, go_0, go_s, cut_0, cut_s, get_0, get_s, put_0, put_1, put_s, clr_0, clr_s, unl_i, unl_l, unl_r, unl_n, nth_0, nth_s, sf_0, sf_s, cnd_0, cnd_1, cnd_2, cnd_3, cnd_4, cnd_5, fit_0, fit_1, fit_2, en_0, en_i, en_l, en_r, kb_t, kb_f, kb_n, sw_0, sw_s, ↓reduceIte, Nat.reduceEqDiff, Nat.left_eq_add, Nat.add_eq_left, Nat.add_left_cancel_iff, Nat.reduceAdd, Int.reduceLT, Int.reduceLE, Int.reduceAdd, Int.reduceSub, Int.reduceNeg, Int.reduceMul, Int.reduceToNat, Int.reduceEq, reduceCtorEq, true_and, and_true, true_or, or_true, and_false, false_and, or_false, false_or, not_true_eq_false, not_false_eq_true, Nat.le_refl, and_self, Sum.inl.injEq, Sum.inr.injEq, Option.some.injEq, hS_2, k_isref, pd_0, pd_s, List.cons_append, List.nil_append, Option.toList_none, Option.toList_some, tX12_spelling, rX12_spelling, k1, e32]
      exact ⟨⟨by omega, by omega⟩, hih⟩
    · rw [if_neg hl] at he
      subst he
      generalize hS h 57 (mO (mS t 32 rc)) = h3 at k1 kk hev ⊢
      refine p_go [] 40 ?_
      simp only [st_0, st_1, st_2, st_3, st_4, st_5, st_6, st_7, st_8, st_9, st_10, st_11, st_12, st_13, st_14, st_15, st_16, st_17, st_18, st_19, st_20, st_21, st_22, st_23, st_24, st_25, st_26, st_27, st_28, st_29, st_30, st_31, st_32, st_33, st_34, st_34a, st_35, st_36, st_37, st_38, st_39, st_42, st_44, st_45, st_47, st_40, st_41, st_46, st_48, st_49, st_43, go_0, go_s, cut_0, cut_s, get_0, get_s, put_0, put_1, put_s, clr_0, clr_s, unl_i, unl_l, unl_r, unl_n, nth_0, nth_s, sf_0, sf_s, cnd_0, cnd_1, cnd_2, cnd_3, cnd_4, cnd_5, fit_0, fit_1, fit_2, en_0, en_i, en_l, en_r, kb_t, kb_f, kb_n, sw_0, sw_s, ↓reduceIte, Nat.reduceEqDiff, Nat.left_eq_add, Nat.add_eq_left, Nat.add_left_cancel_iff, Nat.reduceAdd, Int.reduceLT, Int.reduceLE, Int.reduceAdd, Int.reduceSub, Int.reduceNeg, Int.reduceMul, Int.reduceToNat, Int.reduceEq, reduceCtorEq, true_and, and_true, true_or, or_true, and_false, false_and, or_false, false_or, not_true_eq_false, not_false_eq_true, Nat.le_refl, and_self, Sum.inl.injEq, Sum.inr.injEq, Option.some.injEq, hS_2, k_isref, pd_0, pd_s, List.cons_append, List.nil_append, Option.toList_none, Option.toList_some, tX12_spelling, rX12_spelling, k1, e32]
      refine cV (d' := 0) [vI rc] [] l_12_146 k1 hev (by omega) (p_go [] 40 ?_)
      simp only [st_0, st_1, st_2, st_3, st_4, st_5, st_6, st_7, st_8, st_9, st_10, st_11, st_12, st_13, st_14, st_15, st_16, st_17, st_18, st_19, st_20, st_21, st_22, st_23, st_24, st_25, st_26, st_27, st_28, st_29, st_30, st_31, st_32, st_33, st_34, st_34a, st_35, st_36, st_37, st_38, st_39, st_42, st_44, st_45, st_47, st_40, st_41, st_46, st_48, st_49, st_43, go_0, go_s, cut_0, cut_s, get_0, get_s, put_0, put_1, put_s, clr_0, clr_s, unl_i, unl_l, unl_r, unl_n, nth_0, nth_s, sf_0, sf_s, cnd_0, cnd_1, cnd_2, cnd_3, cnd_4, cnd_5, fit_0, fit_1, fit_2, en_0, en_i, en_l, en_r, kb_t, kb_f, kb_n, sw_0, sw_s, ↓reduceIte, Nat.reduceEqDiff, Nat.left_eq_add, Nat.add_eq_left, Nat.add_left_cancel_iff, Nat.reduceAdd, Int.reduceLT, Int.reduceLE, Int.reduceAdd, Int.reduceSub, Int.reduceNeg, Int.reduceMul, Int.reduceToNat, Int.reduceEq, reduceCtorEq, true_and, and_true, true_or, or_true, and_false, false_and, or_false, false_or, not_true_eq_false, not_false_eq_true, Nat.le_refl, and_self, Sum.inl.injEq, Sum.inr.injEq, Option.some.injEq, hS_2, k_isref, pd_0, pd_s, List.cons_append, List.nil_append, Option.toList_none, Option.toList_some, tX12_spelling, rX12_spelling]
      refine cS (d' := 0) [vI (f rc)] [] l_12_150 (e_mletter _) (by omega) (p_go [32] 40 ?_)
      rw [if_neg hl]
      simp only [st_0, st_1, st_2, st_3, st_4, st_5, st_6, st_7, st_8, st_9, st_10, st_11, st_12, st_13, st_14, st_15, st_16, st_17, st_18, st_19, st_20, st_21, st_22, st_23, st_24, st_25, st_26, st_27, st_28, st_29, st_30, st_31, st_32, st_33, st_34, st_34a, st_35, st_36, st_37, st_38, st_39, st_42, st_44, st_45, st_47, st_40, st_41, st_46, st_48, st_49, st_43, go_0, go_s, cut_0, cut_s, get_0, get_s, put_0, put_1, put_s, clr_0, clr_s, unl_i, unl_l, unl_r, unl_n, nth_0, nth_s, sf_0, sf_s, cnd_0, cnd_1, cnd_2, cnd_3, cnd_4, cnd_5, fit_0, fit_1, fit_2, en_0, en_i, en_l, en_r, kb_t, kb_f, kb_n, sw_0, sw_s, ↓reduceIte, Nat.reduceEqDiff, Nat.left_eq_add, Nat.add_eq_left, Nat.add_left_cancel_iff, Nat.reduceAdd, Int.reduceLT, Int.reduceLE, Int.reduceAdd, Int.reduceSub, Int.reduceNeg, Int.reduceMul, Int.reduceToNat, Int.reduceEq, reduceCtorEq, true_and, and_true, true_or, or_true, and_false, false_and, or_false, false_or, not_true_eq_false, not_false_eq_true, Nat.le_refl, and_self, Sum.inl.injEq, Sum.inr.injEq, Option.some.injEq, hS_2, k_isref, pd_0, pd_s, List.cons_append, List.nil_append, Option.toList_none, Option.toList_some, tX12_spelling, rX12_spelling]
      exact kk
set_option maxRecDepth 100000 in
set_option maxHeartbeats 4000000 in
theorem w_spS {point alt fr n : Int} {wc m : Nat} {sd ss : F_} (h1 : h.2 57 = some (mO t)) (h86 : h.2 71 = some (cI 40 sd)) (h21 : t 21 = m) (h30 : t 30 = wc) (hwc : wc < 20) (hm : m ≤ 20)
    (kk : k_Wp x d 0 0 mX12_spelling P 0 0 138 [some (vR 57), some (vI point), some (vI alt), some (vI fr), some (vI n), none] [] (hS h 72 (cI 400 (va_cpy sd ss 0 (20 * wc) m)))) : ∀ (j i : Nat), i + j = m →
    k_Wp x d 0 0 mX12_spelling P 0 0 101 [some (vR 57), some (vI point), some (vI alt), some (vI fr), some (vI n), some (vI i)] [] (hS h 72 (cI 400 (va_cpy sd ss 0 (20 * wc) i))) := by
  intro j
  induction j with
  | zero =>
    intro i hi
    have e1 : t 21 ≤ (i : Int) := by omega
    rw [show i = m by omega] at *
    refine p_go [138] 40 ?_
    simp only [st_0, st_1, st_2, st_3, st_4, st_5, st_6, st_7, st_8, st_9, st_10, st_11, st_12, st_13, st_14, st_15, st_16, st_17, st_18, st_19, st_20, st_21, st_22, st_23, st_24, st_25, st_26, st_27, st_28, st_29, st_30, st_31, st_32, st_33, st_34, st_34a, st_35, st_36, st_37, st_38, st_39, st_42, st_44, st_45, st_47, st_40, st_41, st_46, st_48, st_49, st_43, go_0, go_s, cut_0, cut_s, get_0, get_s, put_0, put_1, put_s, clr_0, clr_s, unl_i, unl_l, unl_r, unl_n, nth_0, nth_s, sf_0, sf_s, cnd_0, cnd_1, cnd_2, cnd_3, cnd_4, cnd_5, fit_0, fit_1, fit_2, en_0, en_i, en_l, en_r, kb_t, kb_f, kb_n, sw_0, sw_s, ↓reduceIte, Nat.reduceEqDiff, Nat.left_eq_add, Nat.add_eq_left, Nat.add_left_cancel_iff, Nat.reduceAdd, Int.reduceLT, Int.reduceLE, Int.reduceAdd, Int.reduceSub, Int.reduceNeg, Int.reduceMul, Int.reduceToNat, Int.reduceEq, reduceCtorEq, true_and, and_true, true_or, or_true, and_false, false_and, or_false, false_or, not_true_eq_false, not_false_eq_true, Nat.le_refl, and_self, Sum.inl.injEq, Sum.inr.injEq, Option.some.injEq, hS_2, k_isref, pd_0, pd_s, List.cons_append, List.nil_append, Option.toList_none, Option.toList_some, tX12_spelling, rX12_spelling, h1, e1]
    exact p_sub (by (repeat (first | exact le_nil | refine le_s ?_ | refine le_n ?_))) kk
  | succ j ih =>
    intro i hi
    have e1 : ¬ t 21 ≤ (i : Int) := by omega
    have e2 : ((20 : Int) * t 30 + i).toNat = 20 * wc + i := by omega
    have hih := ih (i + 1) (by omega)
    rw [← cpy_s, Nat.zero_add] at hih
    refine p_go [101] 40 ?_
    simp only [st_0, st_1, st_2, st_3, st_4, st_5, st_6, st_7, st_8, st_9, st_10, st_11, st_12, st_13, st_14, st_15, st_16, st_17, st_18, st_19, st_20, st_21, st_22, st_23, st_24, st_25, st_26, st_27, st_28, st_29, st_30, st_31, st_32, st_33, st_34, st_34a, st_35, st_36, st_37, st_38, st_39, st_42, st_44, st_45, st_47, st_40, st_41, st_46, st_48, st_49, st_43, go_0, go_s, cut_0, cut_s, get_0, get_s, put_0, put_1, put_s, clr_0, clr_s, unl_i, unl_l, unl_r, unl_n, nth_0, nth_s, sf_0, sf_s, cnd_0, cnd_1, cnd_2, cnd_3, cnd_4, cnd_5, fit_0, fit_1, fit_2, en_0, en_i, en_l, en_r, kb_t, kb_f, kb_n, sw_0, sw_s, ↓reduceIte, Nat.reduceEqDiff, Nat.left_eq_add, Nat.add_eq_left, Nat.add_left_cancel_iff, Nat.reduceAdd, Int.reduceLT, Int.reduceLE, Int.reduceAdd, Int.reduceSub, Int.reduceNeg, Int.reduceMul, Int.reduceToNat, Int.reduceEq, reduceCtorEq, true_and, and_true, true_or, or_true, and_false, false_and, or_false, false_or, not_true_eq_false, not_false_eq_true, Nat.le_refl, and_self, Sum.inl.injEq, Sum.inr.injEq, Option.some.injEq, hS_2, k_isref, pd_0, pd_s, List.cons_append, List.nil_append, Option.toList_none, Option.toList_some, tX12_spelling, rX12_spelling, h1, h86, e1, e2, nat1, hS_hS, Int.toNat_natCast]
    (repeat (first | exact hih | refine ⟨⟨by omega, by omega⟩, ?_⟩ | refine And.intro (by omega) ?_))
end Mgram76
