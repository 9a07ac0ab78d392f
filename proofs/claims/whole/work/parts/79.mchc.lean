/-! the reference: parsing; a choice -/
section Mchc79
variable {x : Bool} {d : Nat} {h h0 : PH} {s t : F_} {P : PO → PH → Prop} {R E : LxT} {f g : F_} {en : Nat}
theorem skp_no : ∀ (j rc : Nat), ¬ (rc < en ∧ f rc = 32) → skp f en j rc = rc
  | 0, _, _ => rfl
  | j + 1, rc, h => by unfold skp; rw [if_neg h]
theorem MF.p93 {a : F_} (hF : MF h0 h s t) : MF h0 (hS h 78 (cI 8 a)) s t := by
  obtain ⟨m1, m2, m3, ⟨a6, m4⟩, ⟨a7, m5⟩, ⟨a8, m6⟩, ⟨a9, m7⟩, ⟨a10, m8⟩, ⟨a11, m9⟩, ⟨a12, m10⟩, ⟨a13, m11⟩, ⟨a14, m12⟩, m13⟩ := hF
  exact ⟨m1, (hS_n (by decide)).trans m2, m3, ⟨a6, (hS_n (by decide)).trans m4⟩, ⟨a7, (hS_n (by decide)).trans m5⟩, ⟨a8, (hS_n (by decide)).trans m6⟩, ⟨a9, (hS_n (by decide)).trans m7⟩, ⟨a10, (hS_n (by decide)).trans m8⟩, ⟨a11, (hS_n (by decide)).trans m9⟩, ⟨a12, (hS_n (by decide)).trans m10⟩, ⟨a, hS_s _ _ _⟩, ⟨a14, (hS_n (by decide)).trans m12⟩, fun z z1 z2 => (hS_n (by omega)).trans (m13 z z1 z2)⟩
/-- a choice is open: its point is the last one that was open before -/
def chR (R E : LxT) (f : F_) (en rc : Nat) (S : PS) (pl : F_) (mb : Int) (al rc' : Nat) (S' : PS) (pl' : F_) : Prop := PX R E f en rc' S' = PX R E f en rc S ∧ (rc < rc' ∧ rc' ≤ en) ∧ psI rc' S' ∧ S'.1.1 = S.2.1.2 ∧ S.2.1.2 + 1 ≤ S'.2.1.2 ∧
  (S'.2.2.2.1.1 S.2.1.2 = S.1.1 ∧ S'.2.2.2.1.2.2.2 S.2.1.2 = mb ∧ S'.2.2.2.1.2.2.1 S.2.1.2 = (al + 1 : Nat)) ∧
  (∀ k, k < S.2.1.2 → S'.2.2.2.1.2.2.1 k = S.2.2.2.1.2.2.1 k ∧ S'.2.2.2.1.1 k = S.2.2.2.1.1 k ∧ S'.2.2.2.1.2.2.2 k = S.2.2.2.1.2.2.2 k ∧ pl' k = pl k) ∧ (∀ k, S.2.1.2 + 1 ≤ k → k < S'.2.1.2 → pl' k = S'.2.2.2.1.2.2.1 k)
theorem chR.row {rc : Nat} {S : PS} {pl : F_} {mb : Int} {al rc1 rc2 : Nat} {S1 S2 : PS} {pl1 pl2 : F_} (h1 : chR R E f en rc S pl mb al rc1 S1 pl1) (h2 : rwR R E f en rc1 S1 pl1 rc2 S2 pl2) : chR R E f en rc S pl mb al rc2 S2 pl2 := by
  obtain ⟨a1, a2, a3, a4, a5, ⟨a6, a7, a8⟩, a9, a10⟩ := h1
  obtain ⟨b1, b2, b3, b4, b5, b6, b7⟩ := h2
  have c := b6 S.2.1.2 (by omega)
  refine ⟨b1.trans a1, by omega, b3, b4.trans a4, by omega, ⟨c.2.1.trans a6, c.2.2.1.trans a7, c.1.trans a8⟩, fun k hk => ?_, fun k k1 k2 => ?_⟩
  · obtain ⟨e1, e2, e3, e4⟩ := b6 k (by omega)
    obtain ⟨f1, f2, f3, f4⟩ := a9 k hk
    exact ⟨e1.trans f1, e2.trans f2, e3.trans f3, e4.trans f4⟩
  · by_cases hk : k < S1.2.1.2
    · obtain ⟨e1, e2, e3, e4⟩ := b6 k hk
      rw [e4, e1]
      exact a10 k k1 hk
    · exact b7 k (by omega) k2
set_option maxRecDepth 100000 in
set_option maxHeartbeats 4000000 in
theorem w_cho {n8 : Nat} {S : PS} {rc : Nat} {pl t0 : F_} {alt mb : Int} {cc : Int} (hM : MLx h0 s g R E) (h9 : s 9 = en) (hen : en ≤ 400) (hfg : ∀ k, k < en → f k = g k % 256) (hRw : RwC x R E f en h0 s n8) (hn8 : 8 - S.2.1.2 ≤ n8 + 1) (hp8 : S.2.1.2 < 8) (hd : 2 * n8 + 4 ≤ d) (hcc : (cc = 40 ∧ mb = 0) ∨ (cc = 91 ∧ mb = 1)) (hI0 : psI rc S) : ∀ (j rc1 al : Nat) (S1 : PS) (pl1 : F_) (h : PH) (t : F_), en - rc1 < j → al ≤ rc1 → chR R E f en rc S pl mb al rc1 S1 pl1 → MP h0 h s t rc1 S1 pl1 → t 34 = t0 34 → S1.1.2 = 1 →
    k_Wp x d 0 0 mX12_choice (chcQ R E f en h0 s t0 rc S pl) 0 0 85 [some (vR 57), some (vI S.1.1), some (vI alt), some (vI cc), some (vI S.2.1.2), some (vI al), some (vI 1)] [] h := by
  intro j
  induction j with
  | zero => intro rc1 al S1 pl1 h t h1; omega
  | succ j ih =>
    intro rc1 al S1 pl1 h t hj hal hR hP h34 he
    have h1 := hP.1.2.1
    have t33 := hP.2.2.2.2.1
    have e33 : (t 33 = 0) = True := eq_true t33
    obtain ⟨r1, r2, r3, r4, r5, ⟨r6, r6b, r6c⟩, r7, r8⟩ := id hR
    have hlp : (al : Int) = lpt S1.2.1.2 S1.2.2.2.1.2.2.1 S1.1.1 := by
      rw [r4]
      unfold lpt
      rw [if_pos (by omega), Int.toNat_natCast, r6c]
      omega
    have hev := hRw h t rc1 S1 pl1 al (by omega) hP r3 r2.2 he hlp
    rw [r4] at hev
    refine p_go [] 40 ?_
    simp only [st_0, st_1, st_2, st_3, st_4, st_5, st_6, st_7, st_8, st_9, st_10, st_11, st_12, st_13, st_14, st_15, st_16, st_17, st_18, st_19, st_20, st_21, st_22, st_23, st_24, st_25, st_26, st_27, st_28, st_29, st_30, st_31, st_32, st_33, st_34, st_34a, st_35, st_36, st_37, st_38, st_39, st_42, st_44, st_45, st_47, st_40, st_41, st_46, st_48, st_49, st_43, go_0, go_s, cut_0, cut_s, get_0, get_s, put_0, put_1, put_s, clr_0, clr_s, unl_i, unl_l, unl_r, unl_n, nth_0, nth_s, sf_0, sf_s, cnd_0, cnd_1, cnd_2, cnd_3, cnd_4, cnd_5, fit_0, fit_1, fit_2, en_0, en_i, en_l, en_r, kb_t, kb_f, kb_n, sw_0, sw_s, ↓reduceIte, Nat.reduceEqDiff, Nat.left_eq_add, Nat.add_eq_left, Nat.add_left_cancel_iff, Nat.reduceAdd, Int.reduceLT, Int.reduceLE, Int.reduceAdd, Int.reduceSub, Int.reduceNeg, Int.reduceMul, Int.reduceToNat, Int.reduceEq, reduceCtorEq, true_and, and_true, true_or, or_true, and_false, false_and, or_false, false_or, not_true_eq_false, not_false_eq_true, Nat.le_refl, and_self, Sum.inl.injEq, Sum.inr.injEq, Option.some.injEq, hS_2, k_isref, pd_0, pd_s, List.cons_append, List.nil_append, Option.toList_none, Option.toList_some, tX12_choice, rX12_choice, h1, e33]
    refine cVQ (d' := 2 * n8 + 3) [vI S.2.1.2, vI al] [] l_12_201 h1 hev (by omega) ?_ (fun E h' q => by cases q.1)
    intro rr h3 ⟨q1, q2⟩
    cases q1
    refine p_go [] 40 ?_
    have enal : (al : Int) + 1 = ((al + 1 : Nat) : Int) := by omega
    rcases q2 with hq | ⟨t2, rc2, S2, pl2, u1, u2, u3, u4, u5⟩
    · -- a fault within the row
      rw [r1] at hq
      obtain ⟨t3, w1, w2, w3, w4⟩ := hq
      have k1 := w1.2.1
      have k9 : t3 9 = en := (w1.2.2.1 9 (by decide) (by decide)).trans h9
      have k77 : h3.2 62 = some (.inl (1, 400, g)) := (w1.2.2.2.2.2.2.2.2.2.2.2.2 62 (by decide) (by decide)).trans hM.1
      have hbl := e_blanks (x := x) (d := 1) (f := f) (rc := (t3 32).toNat) k1 k77 k9 (by omega) hen (by omega) hfg (Nat.le_refl 1)
      have hsb := skp_b (f := f) (en := en) (en - (t3 32).toNat) (t3 32).toNat
      have hF4 : MF h0 (hS h3 57 (mO (mS t3 32 (skp f en (en - (t3 32).toNat) (t3 32).toNat : Nat)))) s (mS t3 32 (skp f en (en - (t3 32).toNat) (t3 32).toNat : Nat)) := w1.put (fun i i1 i2 => mS_n (by omega))
      have hsb2 := hsb.2 (by omega)
      generalize skp f en (en - (t3 32).toNat) (t3 32).toNat = rk at hbl hsb hF4 hsb2
      have y33 : mS t3 32 rk 33 = t3 33 := rfl
      have y34 : mS t3 32 rk 34 = t3 34 := rfl
      have y32 : mS t3 32 rk 32 = (rk : Int) := rfl
      simp only [st_0, st_1, st_2, st_3, st_4, st_5, st_6, st_7, st_8, st_9, st_10, st_11, st_12, st_13, st_14, st_15, st_16, st_17, st_18, st_19, st_20, st_21, st_22, st_23, st_24, st_25, st_26, st_27, st_28, st_29, st_30, st_31, st_32, st_33, st_34, st_34a, st_35, st_36, st_37, st_38, st_39, st_42, st_44, st_45, st_47, st_40, st_41, st_46, st_48, st_49, st_43, go_0, go_s, cut_0, cut_s, get_0, get_s, put_0, put_1, put_s, clr_0, clr_s, unl_i, unl_l, unl_r, unl_n, nth_0, nth_s, sf_0, sf_s, cnd_0, cnd_1, cnd_2, cnd_3, cnd_4, cnd_5, fit_0, fit_1, fit_2, en_0, en_i, en_l, en_r, kb_t, kb_f, kb_n, sw_0, sw_s, ↓reduceIte, Nat.reduceEqDiff, Nat.left_eq_add, Nat.add_eq_left, Nat.add_left_cancel_iff, Nat.reduceAdd, Int.reduceLT, Int.reduceLE, Int.reduceAdd, Int.reduceSub, Int.reduceNeg, Int.reduceMul, Int.reduceToNat, Int.reduceEq, reduceCtorEq, true_and, and_true, true_or, or_true, and_false, false_and, or_false, false_or, not_true_eq_false, not_false_eq_true, Nat.le_refl, and_self, Sum.inl.injEq, Sum.inr.injEq, Option.some.injEq, hS_2, k_isref, pd_0, pd_s, List.cons_append, List.nil_append, Option.toList_none, Option.toList_some, tX12_choice, rX12_choice, enal]
      refine ⟨⟨by omega, by omega⟩, ?_⟩
      refine cV (d' := 1) [] [] l_12_182 k1 hbl (by omega) (p_go [85] 60 ?_)
      generalize hS h3 57 (mO (mS t3 32 rk)) = h4 at hF4 ⊢
      generalize mS t3 32 rk = t4 at hF4 y33 y34 y32
      have k4 := hF4.2.1
      have f33 : (t4 33 = 0) = False := eq_false (by omega)
      have f33b : (t4 33 ≤ 0) = False := eq_false (by omega)
      have hFQ : ∀ a : F_, chcQ R E f en h0 s t0 rc S pl rV (hS h4 78 (cI 8 a)) := fun a => ⟨rfl, Or.inl ⟨t4, hF4.p93, by omega, by omega, by rw [w4, y33, y34]⟩⟩
      obtain ⟨a93, k93⟩ := hF4.2.2.2.2.2.2.2.2.2.2.1
      have e0 : t4 32 + 0 = t4 32 := by omega
      have hlast : k_Wp x d 0 0 mX12_choice (chcQ R E f en h0 s t0 rc S pl) 0 0 85 [some (vR 57), some (vI S.1.1), some (vI alt), some (vI cc), some (vI S.2.1.2), some (vI ((al + 1 : Nat) : Int)), some (vI 0)] [] h4 := by
        refine p_go [] 40 ?_
        simp only [st_0, st_1, st_2, st_3, st_4, st_5, st_6, st_7, st_8, st_9, st_10, st_11, st_12, st_13, st_14, st_15, st_16, st_17, st_18, st_19, st_20, st_21, st_22, st_23, st_24, st_25, st_26, st_27, st_28, st_29, st_30, st_31, st_32, st_33, st_34, st_34a, st_35, st_36, st_37, st_38, st_39, st_42, st_44, st_45, st_47, st_40, st_41, st_46, st_48, st_49, st_43, go_0, go_s, cut_0, cut_s, get_0, get_s, put_0, put_1, put_s, clr_0, clr_s, unl_i, unl_l, unl_r, unl_n, nth_0, nth_s, sf_0, sf_s, cnd_0, cnd_1, cnd_2, cnd_3, cnd_4, cnd_5, fit_0, fit_1, fit_2, en_0, en_i, en_l, en_r, kb_t, kb_f, kb_n, sw_0, sw_s, ↓reduceIte, Nat.reduceEqDiff, Nat.left_eq_add, Nat.add_eq_left, Nat.add_left_cancel_iff, Nat.reduceAdd, Int.reduceLT, Int.reduceLE, Int.reduceAdd, Int.reduceSub, Int.reduceNeg, Int.reduceMul, Int.reduceToNat, Int.reduceEq, reduceCtorEq, true_and, and_true, true_or, or_true, and_false, false_and, or_false, false_or, not_true_eq_false, not_false_eq_true, Nat.le_refl, and_self, Sum.inl.injEq, Sum.inr.injEq, Option.some.injEq, hS_2, k_isref, pd_0, pd_s, List.cons_append, List.nil_append, Option.toList_none, Option.toList_some, tX12_choice, rX12_choice, k4, k93, f33b, Int.toNat_natCast]
        exact ⟨⟨by omega, by omega⟩, hFQ _⟩
      rw [← hS_id k4] at hlast
      simp only [st_0, st_1, st_2, st_3, st_4, st_5, st_6, st_7, st_8, st_9, st_10, st_11, st_12, st_13, st_14, st_15, st_16, st_17, st_18, st_19, st_20, st_21, st_22, st_23, st_24, st_25, st_26, st_27, st_28, st_29, st_30, st_31, st_32, st_33, st_34, st_34a, st_35, st_36, st_37, st_38, st_39, st_42, st_44, st_45, st_47, st_40, st_41, st_46, st_48, st_49, st_43, go_0, go_s, cut_0, cut_s, get_0, get_s, put_0, put_1, put_s, clr_0, clr_s, unl_i, unl_l, unl_r, unl_n, nth_0, nth_s, sf_0, sf_s, cnd_0, cnd_1, cnd_2, cnd_3, cnd_4, cnd_5, fit_0, fit_1, fit_2, en_0, en_i, en_l, en_r, kb_t, kb_f, kb_n, sw_0, sw_s, ↓reduceIte, Nat.reduceEqDiff, Nat.left_eq_add, Nat.add_eq_left, Nat.add_left_cancel_iff, Nat.reduceAdd, Int.reduceLT, Int.reduceLE, Int.reduceAdd, Int.reduceSub, Int.reduceNeg, Int.reduceMul, Int.reduceToNat, Int.reduceEq, reduceCtorEq, true_and, and_true, true_or, or_true, and_false, false_and, or_false, false_or, not_true_eq_false, not_false_eq_true, Nat.le_refl, and_self, Sum.inl.injEq, Sum.inr.injEq, Option.some.injEq, hS_2, k_isref, pd_0, pd_s, List.cons_append, List.nil_append, Option.toList_none, Option.toList_some, tX12_choice, rX12_choice, k4, f33, e0]
      exact ⟨⟨by omega, by omega⟩, hlast⟩
    · have hR2 := hR.row u3
      have hst : ¬ (rc2 < en ∧ f rc2 = 32) := fun q => (u5 q.1).2.1 q.2
      have k1 := u1.1.2.1
      have k9 : t2 9 = en := (u1.1.2.2.1 9 (by decide) (by decide)).trans h9
      have k77 : h3.2 62 = some (.inl (1, 400, g)) := (u1.1.2.2.2.2.2.2.2.2.2.2.2.2 62 (by decide) (by decide)).trans hM.1
      have k32 := u1.2.1
      have k33 := u1.2.2.2.2.1
      have hrc2 := hR2.2.1
      have hrc3 := u3.2.1
      have hbl := e_blanks (x := x) (d := 1) (f := f) (rc := rc2) k1 k77 k9 k32 hen (by omega) hfg (Nat.le_refl 1)
      rw [skp_no _ _ hst, mS_id k32, hS_id k1] at hbl
      have hbt := e_byteAt (x := x) (d := 0) (k := rc2) k1 k77 (by rw [k9]; omega)
      rw [k9] at hbt
      have hv : (if (rc2 : Int) < (en : Int) then g rc2 % 256 else 0) = (if rc2 < en then f rc2 else 0) := by
        by_cases c : rc2 < en
        · rw [if_pos c, if_pos (by omega), hfg rc2 c]
        · rw [if_neg c, if_neg (by omega)]
      rw [hv] at hbt
      have f33 : (t2 33 = 0) = True := eq_true k33
      simp only [st_0, st_1, st_2, st_3, st_4, st_5, st_6, st_7, st_8, st_9, st_10, st_11, st_12, st_13, st_14, st_15, st_16, st_17, st_18, st_19, st_20, st_21, st_22, st_23, st_24, st_25, st_26, st_27, st_28, st_29, st_30, st_31, st_32, st_33, st_34, st_34a, st_35, st_36, st_37, st_38, st_39, st_42, st_44, st_45, st_47, st_40, st_41, st_46, st_48, st_49, st_43, go_0, go_s, cut_0, cut_s, get_0, get_s, put_0, put_1, put_s, clr_0, clr_s, unl_i, unl_l, unl_r, unl_n, nth_0, nth_s, sf_0, sf_s, cnd_0, cnd_1, cnd_2, cnd_3, cnd_4, cnd_5, fit_0, fit_1, fit_2, en_0, en_i, en_l, en_r, kb_t, kb_f, kb_n, sw_0, sw_s, ↓reduceIte, Nat.reduceEqDiff, Nat.left_eq_add, Nat.add_eq_left, Nat.add_left_cancel_iff, Nat.reduceAdd, Int.reduceLT, Int.reduceLE, Int.reduceAdd, Int.reduceSub, Int.reduceNeg, Int.reduceMul, Int.reduceToNat, Int.reduceEq, reduceCtorEq, true_and, and_true, true_or, or_true, and_false, false_and, or_false, false_or, not_true_eq_false, not_false_eq_true, Nat.le_refl, and_self, Sum.inl.injEq, Sum.inr.injEq, Option.some.injEq, hS_2, k_isref, pd_0, pd_s, List.cons_append, List.nil_append, Option.toList_none, Option.toList_some, tX12_choice, rX12_choice, enal]
      refine ⟨⟨by omega, by omega⟩, ?_⟩
      refine cV (d' := 1) [] [] l_12_182 k1 hbl (by omega) (p_go [] 60 ?_)
      simp only [st_0, st_1, st_2, st_3, st_4, st_5, st_6, st_7, st_8, st_9, st_10, st_11, st_12, st_13, st_14, st_15, st_16, st_17, st_18, st_19, st_20, st_21, st_22, st_23, st_24, st_25, st_26, st_27, st_28, st_29, st_30, st_31, st_32, st_33, st_34, st_34a, st_35, st_36, st_37, st_38, st_39, st_42, st_44, st_45, st_47, st_40, st_41, st_46, st_48, st_49, st_43, go_0, go_s, cut_0, cut_s, get_0, get_s, put_0, put_1, put_s, clr_0, clr_s, unl_i, unl_l, unl_r, unl_n, nth_0, nth_s, sf_0, sf_s, cnd_0, cnd_1, cnd_2, cnd_3, cnd_4, cnd_5, fit_0, fit_1, fit_2, en_0, en_i, en_l, en_r, kb_t, kb_f, kb_n, sw_0, sw_s, ↓reduceIte, Nat.reduceEqDiff, Nat.left_eq_add, Nat.add_eq_left, Nat.add_left_cancel_iff, Nat.reduceAdd, Int.reduceLT, Int.reduceLE, Int.reduceAdd, Int.reduceSub, Int.reduceNeg, Int.reduceMul, Int.reduceToNat, Int.reduceEq, reduceCtorEq, true_and, and_true, true_or, or_true, and_false, false_and, or_false, false_or, not_true_eq_false, not_false_eq_true, Nat.le_refl, and_self, Sum.inl.injEq, Sum.inr.injEq, Option.some.injEq, hS_2, k_isref, pd_0, pd_s, List.cons_append, List.nil_append, Option.toList_none, Option.toList_some, tX12_choice, rX12_choice, k1, f33, k32]
      refine cV (d' := 0) [vI rc2] [] l_12_146 k1 hbt (by omega) (p_go [85] 60 ?_)
      obtain ⟨a1, a2, a3, a4, a5, ⟨a6, a6b, a6c⟩, a7, a8⟩ := id hR2
      obtain ⟨⟨o2, e2⟩, ⟨wc2, pc2⟩, ⟨wl2, ws2, wp2, wq2⟩, ⟨op2, oq2, pt2, ob2⟩, ⟨lf2, sf2⟩⟩ := S2
      simp only at u4 a4 a5 a6 a6b a6c a7 a8
      subst u4
      subst a4
      by_cases hbar : rc2 < en ∧ f rc2 = 124
      · -- a bar: the next part
        rw [if_pos hbar.1]
        have e124 : (f rc2 = 124) = True := eq_true hbar.2
        have hb : bhd f (en - rc2) rc2 = rc2 := bhd_no (by rw [hbar.2]; decide)
        have hT : prT R E f en rc2 (((S.2.1.2 : Int), 0), (wc2, pc2), (wl2, ws2, wp2, wq2), (op2, oq2, pt2, ob2), lf2, sf2) = (0, (((S.2.1.2 : Int), 1), (wc2, pc2), (wl2, ws2, wp2, wq2), (op2, oq2, fS pt2 S.2.1.2 (pt2 S.2.1.2 + 1), ob2), lf2, sf2)) := by
          unfold prT
          rw [hb, if_neg (by omega), hbar.2]
          unfold tkSign
          rw [if_neg (by decide), if_neg (by decide), if_neg (by decide), if_pos rfl]
          unfold tkBar
          simp only
          rw [if_neg (by omega), Int.toNat_natCast]
        have hpx := PX_go (R := R) (E := E) (f := f) (en := en) (rc := rc2) (S := (((S.2.1.2 : Int), 0), (wc2, pc2), (wl2, ws2, wp2, wq2), (op2, oq2, pt2, ob2), lf2, sf2)) hbar.1 (by rw [hT])
        rw [hT, hb, show max rc2 (rc2 + 1) = rc2 + 1 by omega] at hpx
        simp only at hpx
        have hIb := tkBar_I a3
        have hnx := ih (rc2 + 1) (al + 1) (((S.2.1.2 : Int), 1), (wc2, pc2), (wl2, ws2, wp2, wq2), (op2, oq2, fS pt2 S.2.1.2 (pt2 S.2.1.2 + 1), ob2), lf2, sf2) pl2 (hS h3 57 (mO (mS t2 32 (rc2 + 1 : Nat)))) (mS t2 32 (rc2 + 1 : Nat)) (by omega) (by omega) ⟨hpx.symm.trans a1, by omega, ?_, rfl, a5, ⟨a6, a6b, ?_⟩, fun k hk => ?_, fun k q1 q2 => ?_⟩ (u1.skip (rc' := rc2 + 1)) (u2.trans h34) rfl
        · have e5 : t2 32 + 1 = ((rc2 + 1 : Nat) : Int) := by omega
          simp only [st_0, st_1, st_2, st_3, st_4, st_5, st_6, st_7, st_8, st_9, st_10, st_11, st_12, st_13, st_14, st_15, st_16, st_17, st_18, st_19, st_20, st_21, st_22, st_23, st_24, st_25, st_26, st_27, st_28, st_29, st_30, st_31, st_32, st_33, st_34, st_34a, st_35, st_36, st_37, st_38, st_39, st_42, st_44, st_45, st_47, st_40, st_41, st_46, st_48, st_49, st_43, go_0, go_s, cut_0, cut_s, get_0, get_s, put_0, put_1, put_s, clr_0, clr_s, unl_i, unl_l, unl_r, unl_n, nth_0, nth_s, sf_0, sf_s, cnd_0, cnd_1, cnd_2, cnd_3, cnd_4, cnd_5, fit_0, fit_1, fit_2, en_0, en_i, en_l, en_r, kb_t, kb_f, kb_n, sw_0, sw_s, ↓reduceIte, Nat.reduceEqDiff, Nat.left_eq_add, Nat.add_eq_left, Nat.add_left_cancel_iff, Nat.reduceAdd, Int.reduceLT, Int.reduceLE, Int.reduceAdd, Int.reduceSub, Int.reduceNeg, Int.reduceMul, Int.reduceToNat, Int.reduceEq, reduceCtorEq, true_and, and_true, true_or, or_true, and_false, false_and, or_false, false_or, not_true_eq_false, not_false_eq_true, Nat.le_refl, and_self, Sum.inl.injEq, Sum.inr.injEq, Option.some.injEq, hS_2, k_isref, pd_0, pd_s, List.cons_append, List.nil_append, Option.toList_none, Option.toList_some, tX12_choice, rX12_choice, k1, e124, e5]
          exact ⟨⟨by omega, by omega⟩, hnx⟩
        · unfold tkBar at hIb
          simp only at hIb
          rw [if_neg (by omega), Int.toNat_natCast] at hIb
          exact hIb
        · show fS pt2 S.2.1.2 (pt2 S.2.1.2 + 1) S.2.1.2 = _
          rw [fS_s, a6c]
          omega
        · obtain ⟨e1, e2, e3, e4⟩ := a7 k hk
          exact ⟨(fS_n (by omega)).trans e1, e2, e3, e4⟩
        · show pl2 k = fS pt2 S.2.1.2 (pt2 S.2.1.2 + 1) k
          rw [fS_n (by omega)]
          exact a8 k q1 q2
      · -- the choice ends here
        have c124 : ((if rc2 < en then f rc2 else 0) = 124) = False := eq_false (fun q => by
          by_cases c : rc2 < en
          · rw [if_pos c] at q; exact hbar ⟨c, q⟩
          · rw [if_neg c] at q; omega)
        have e0 : t2 32 + 0 = t2 32 := by omega
        have hlast : k_Wp x d 0 0 mX12_choice (chcQ R E f en h0 s t0 rc S pl) 0 0 85 [some (vR 57), some (vI S.1.1), some (vI alt), some (vI cc), some (vI S.2.1.2), some (vI ((al + 1 : Nat) : Int)), some (vI 0)] [] h3 := by
          have hP5 : MP h0 (hS h3 78 (cI 8 (fS pl2 S.2.1.2 ((al + 1 : Nat) : Int)))) s t2 rc2 (((S.2.1.2 : Int), 0), (wc2, pc2), (wl2, ws2, wp2, wq2), (op2, oq2, pt2, ob2), lf2, sf2) (fS pl2 S.2.1.2 ((al + 1 : Nat) : Int)) := by
            obtain ⟨v1, v2, v3, v4, v5, v6, v7, pp, pa, pm, v8, v9, v10, v11⟩ := u1
            exact ⟨v1.p93, v2, v3, v4, v5, v6.fr (fun z z1 z2 => hS_n (by omega)), hS_s _ _ _, pp, pa, pm, (hS_n (by decide)).trans v8, (hS_n (by decide)).trans v9, (hS_n (by decide)).trans v10, v11⟩
          have k93 := u1.2.2.2.2.2.2.1
          have f33b : (t2 33 ≤ 0) = True := eq_true (by omega)
          refine p_go [] 60 ?_
          simp only [st_0, st_1, st_2, st_3, st_4, st_5, st_6, st_7, st_8, st_9, st_10, st_11, st_12, st_13, st_14, st_15, st_16, st_17, st_18, st_19, st_20, st_21, st_22, st_23, st_24, st_25, st_26, st_27, st_28, st_29, st_30, st_31, st_32, st_33, st_34, st_34a, st_35, st_36, st_37, st_38, st_39, st_42, st_44, st_45, st_47, st_40, st_41, st_46, st_48, st_49, st_43, go_0, go_s, cut_0, cut_s, get_0, get_s, put_0, put_1, put_s, clr_0, clr_s, unl_i, unl_l, unl_r, unl_n, nth_0, nth_s, sf_0, sf_s, cnd_0, cnd_1, cnd_2, cnd_3, cnd_4, cnd_5, fit_0, fit_1, fit_2, en_0, en_i, en_l, en_r, kb_t, kb_f, kb_n, sw_0, sw_s, ↓reduceIte, Nat.reduceEqDiff, Nat.left_eq_add, Nat.add_eq_left, Nat.add_left_cancel_iff, Nat.reduceAdd, Int.reduceLT, Int.reduceLE, Int.reduceAdd, Int.reduceSub, Int.reduceNeg, Int.reduceMul, Int.reduceToNat, Int.reduceEq, reduceCtorEq, true_and, and_true, true_or, or_true, and_false, false_and, or_false, false_or, not_true_eq_false, not_false_eq_true, Nat.le_refl, and_self, Sum.inl.injEq, Sum.inr.injEq, Option.some.injEq, hS_2, k_isref, pd_0, pd_s, List.cons_append, List.nil_append, Option.toList_none, Option.toList_some, tX12_choice, rX12_choice, k1, k93, f33b, k32, Int.toNat_natCast]
          refine ⟨⟨by omega, by omega⟩, ?_⟩
          have j77 : (hS h3 78 (cI 8 (fS pl2 S.2.1.2 ((al + 1 : Nat) : Int)))).2 62 = some (.inl (1, 400, g)) := (hS_n (by decide)).trans k77
          generalize hS h3 78 (cI 8 (fS pl2 S.2.1.2 ((al + 1 : Nat) : Int))) = h5 at hP5 j77 ⊢
          have j1 := hP5.1.2.1
          have hbt2 := e_byteAt (x := x) (d := 0) (k := rc2) j1 j77 (by rw [k9]; omega)
          rw [k9, hv] at hbt2
          refine cV (d' := 0) [vI rc2] [] l_12_146 j1 hbt2 (by omega) (p_go [] 60 ?_)
          have hwr := e_wrong (x := x) (d := 0) (w := 1) (p := rc2) j1
          rw [k33, if_neg (by decide)] at hwr
          -- no closing: the parse ends
          have bad : ¬ (rc2 < en ∧ ((f rc2 = 41 ∧ mb = 0) ∨ (f rc2 = 93 ∧ mb = 1))) → k_Wp x d 0 0 mX12_choice (chcQ R E f en h0 s t0 rc S pl) 0 0 208 [some (vR 57), some (vI S.1.1), some (vI alt), some (vI cc), some (vI S.2.1.2), some (vI ((al + 1 : Nat) : Int)), some (vI 0)] [vI rc2, vI 1, vR 57] h5 := by
            intro hno
            refine cV (d' := 0) [vI 1, vI rc2] [] l_12_192 j1 hwr (by omega) (p_go [] 40 ?_)
            simp only [st_0, st_1, st_2, st_3, st_4, st_5, st_6, st_7, st_8, st_9, st_10, st_11, st_12, st_13, st_14, st_15, st_16, st_17, st_18, st_19, st_20, st_21, st_22, st_23, st_24, st_25, st_26, st_27, st_28, st_29, st_30, st_31, st_32, st_33, st_34, st_34a, st_35, st_36, st_37, st_38, st_39, st_42, st_44, st_45, st_47, st_40, st_41, st_46, st_48, st_49, st_43, go_0, go_s, cut_0, cut_s, get_0, get_s, put_0, put_1, put_s, clr_0, clr_s, unl_i, unl_l, unl_r, unl_n, nth_0, nth_s, sf_0, sf_s, cnd_0, cnd_1, cnd_2, cnd_3, cnd_4, cnd_5, fit_0, fit_1, fit_2, en_0, en_i, en_l, en_r, kb_t, kb_f, kb_n, sw_0, sw_s, ↓reduceIte, Nat.reduceEqDiff, Nat.left_eq_add, Nat.add_eq_left, Nat.add_left_cancel_iff, Nat.reduceAdd, Int.reduceLT, Int.reduceLE, Int.reduceAdd, Int.reduceSub, Int.reduceNeg, Int.reduceMul, Int.reduceToNat, Int.reduceEq, reduceCtorEq, true_and, and_true, true_or, or_true, and_false, false_and, or_false, false_or, not_true_eq_false, not_false_eq_true, Nat.le_refl, and_self, Sum.inl.injEq, Sum.inr.injEq, Option.some.injEq, hS_2, k_isref, pd_0, pd_s, List.cons_append, List.nil_append, Option.toList_none, Option.toList_some, tX12_choice, rX12_choice]
            refine ⟨rfl, Or.inl ⟨mS (mS t2 33 1) 34 rc2, hP5.1.put (fun i j1 j2 => (mS_n (by omega)).trans (mS_n (by omega))), (show 0 ≤ t2 32 ∧ t2 32 ≤ s 9 by omega), (show (0 : Int) < 1 by decide), ?_⟩⟩
            rw [← a1]
            by_cases hc : rc2 < en
            · obtain ⟨x1, x2, x3, x4⟩ := u5 hc
              have hb : bhd f (en - rc2) rc2 = rc2 := bhd_no x1
              have ht : (prT R E f en rc2 (((S.2.1.2 : Int), 0), (wc2, pc2), (wl2, ws2, wp2, wq2), (op2, oq2, pt2, ob2), lf2, sf2)).1 = 1 := by
                unfold prT
                rw [hb, if_neg (by omega)]
                unfold tkSign
                rw [if_neg x2, if_neg x3, if_neg x4, if_neg (fun q => hbar ⟨hc, q⟩)]
                by_cases c2 : f rc2 = 41
                · rw [if_pos c2]; unfold tkClose; simp only; rw [if_pos (Or.inr (Or.inr (by rw [Int.toNat_natCast, a6b]; intro q; exact hno ⟨hc, Or.inl ⟨c2, q⟩⟩)))]
                · rw [if_neg c2]
                  by_cases c3 : f rc2 = 93
                  · rw [if_pos c3]; unfold tkClose; simp only; rw [if_pos (Or.inr (Or.inr (by rw [Int.toNat_natCast, a6b]; intro q; exact hno ⟨hc, Or.inr ⟨c3, q⟩⟩)))]
                  · rw [if_neg c3]
              rw [PX_err hc (by rw [ht]; decide)]
              unfold prX
              simp only
              rw [ht, if_pos (by decide)]
              rfl
            · rw [PX_stop (by omega)]
              unfold prX
              simp only
              rw [if_neg (by decide), if_pos (Or.inr (by omega))]
              rfl
          -- closed
          have good : rc2 < en → ((f rc2 = 41 ∧ mb = 0) ∨ (f rc2 = 93 ∧ mb = 1)) → chcQ R E f en h0 s t0 rc S pl rV (hS h5 57 (mO (mS t2 32 ((rc2 + 1 : Nat) : Int)))) := by
            intro hc hcl
            have hb : bhd f (en - rc2) rc2 = rc2 := bhd_no (by rcases hcl with q | q <;> rw [q.1] <;> decide)
            have hT : prT R E f en rc2 (((S.2.1.2 : Int), 0), (wc2, pc2), (wl2, ws2, wp2, wq2), (op2, oq2, pt2, ob2), lf2, sf2) = (0, ((S.1.1, 0), (wc2, pc2), (wl2, ws2, wp2, wq2), (op2, oq2, pt2, ob2), lf2, sf2)) := by
              unfold prT
              rw [hb, if_neg (by omega)]
              have ho : ob2 S.2.1.2 = mb := a6b
              have hop : op2 S.2.1.2 = S.1.1 := a6
              rcases hcl with ⟨q1, q2⟩ | ⟨q1, q2⟩
              · rw [q1]
                unfold tkSign
                rw [if_neg (by decide), if_neg (by decide), if_neg (by decide), if_neg (by decide), if_pos rfl]
                unfold tkClose
                simp only
                rw [if_neg (by rw [Int.toNat_natCast, ho, q2]; omega), Int.toNat_natCast, hop]
              · rw [q1]
                unfold tkSign
                rw [if_neg (by decide), if_neg (by decide), if_neg (by decide), if_neg (by decide), if_neg (by decide), if_pos rfl]
                unfold tkClose
                simp only
                rw [if_neg (by rw [Int.toNat_natCast, ho, q2]; omega), Int.toNat_natCast, hop]
            have hpx := PX_go (R := R) (E := E) (f := f) (en := en) (rc := rc2) (S := (((S.2.1.2 : Int), 0), (wc2, pc2), (wl2, ws2, wp2, wq2), (op2, oq2, pt2, ob2), lf2, sf2)) hc (by rw [hT])
            rw [hT, hb, show max rc2 (rc2 + 1) = rc2 + 1 by omega] at hpx
            simp only at hpx
            have hIc : psI (rc2 + 1) ((S.1.1, 0), (wc2, pc2), (wl2, ws2, wp2, wq2), (op2, oq2, pt2, ob2), lf2, sf2) := by
              obtain ⟨y1, y2, y3, y4, y5, y6, y7, y8, y9⟩ := psI_mono a3 (show rc2 ≤ rc2 + 1 by omega)
              have z1 := hI0.1
              exact ⟨⟨z1.1, by have := a5; show S.1.1 < (pc2 : Int); omega⟩, Or.inl rfl, y3, y4, y5, y6, y7, y8, y9⟩
            refine ⟨rfl, Or.inr ⟨mS t2 32 ((rc2 + 1 : Nat) : Int), rc2 + 1, ((S.1.1, 0), (wc2, pc2), (wl2, ws2, wp2, wq2), (op2, oq2, pt2, ob2), lf2, sf2), fS pl2 S.2.1.2 ((al + 1 : Nat) : Int), hP5.skip (rc' := rc2 + 1), u2.trans h34, ⟨hpx.symm.trans a1, by omega, hIc, rfl, ?_, fun k hk => ?_, fun k q1 q2 => ?_⟩, by omega, rfl⟩⟩
            · show S.2.1.2 ≤ pc2
              omega
            · obtain ⟨e1, e2, e3, e4⟩ := a7 k hk
              exact ⟨e1, e2, e3, (fS_n (by omega)).trans e4⟩
            · show fS pl2 S.2.1.2 ((al + 1 : Nat) : Int) k = pt2 k
              by_cases ek : k = S.2.1.2
              · rw [ek, fS_s, a6c]
              · rw [fS_n ek]
                exact a8 k (by omega) q2
          have e5 : t2 32 + 1 = ((rc2 + 1 : Nat) : Int) := by omega
          rcases hcc with ⟨rfl, rfl⟩ | ⟨rfl, rfl⟩
          · by_cases hc : rc2 < en ∧ f rc2 = 41
            · rw [if_pos hc.1]
              have e41 : (f rc2 = 41) = True := eq_true hc.2
              simp only [st_0, st_1, st_2, st_3, st_4, st_5, st_6, st_7, st_8, st_9, st_10, st_11, st_12, st_13, st_14, st_15, st_16, st_17, st_18, st_19, st_20, st_21, st_22, st_23, st_24, st_25, st_26, st_27, st_28, st_29, st_30, st_31, st_32, st_33, st_34, st_34a, st_35, st_36, st_37, st_38, st_39, st_42, st_44, st_45, st_47, st_40, st_41, st_46, st_48, st_49, st_43, go_0, go_s, cut_0, cut_s, get_0, get_s, put_0, put_1, put_s, clr_0, clr_s, unl_i, unl_l, unl_r, unl_n, nth_0, nth_s, sf_0, sf_s, cnd_0, cnd_1, cnd_2, cnd_3, cnd_4, cnd_5, fit_0, fit_1, fit_2, en_0, en_i, en_l, en_r, kb_t, kb_f, kb_n, sw_0, sw_s, ↓reduceIte, Nat.reduceEqDiff, Nat.left_eq_add, Nat.add_eq_left, Nat.add_left_cancel_iff, Nat.reduceAdd, Int.reduceLT, Int.reduceLE, Int.reduceAdd, Int.reduceSub, Int.reduceNeg, Int.reduceMul, Int.reduceToNat, Int.reduceEq, reduceCtorEq, true_and, and_true, true_or, or_true, and_false, false_and, or_false, false_or, not_true_eq_false, not_false_eq_true, Nat.le_refl, and_self, Sum.inl.injEq, Sum.inr.injEq, Option.some.injEq, hS_2, k_isref, pd_0, pd_s, List.cons_append, List.nil_append, Option.toList_none, Option.toList_some, tX12_choice, rX12_choice, j1, e41, e5]
              exact ⟨⟨by omega, by omega⟩, good hc.1 (Or.inl ⟨hc.2, rfl⟩)⟩
            · have e41 : ((if rc2 < en then f rc2 else 0) = 41) = False := eq_false (fun q => by
                by_cases c : rc2 < en
                · rw [if_pos c] at q; exact hc ⟨c, q⟩
                · rw [if_neg c] at q; omega)
              simp only [st_0, st_1, st_2, st_3, st_4, st_5, st_6, st_7, st_8, st_9, st_10, st_11, st_12, st_13, st_14, st_15, st_16, st_17, st_18, st_19, st_20, st_21, st_22, st_23, st_24, st_25, st_26, st_27, st_28, st_29, st_30, st_31, st_32, st_33, st_34, st_34a, st_35, st_36, st_37, st_38, st_39, st_42, st_44, st_45, st_47, st_40, st_41, st_46, st_48, st_49, st_43, go_0, go_s, cut_0, cut_s, get_0, get_s, put_0, put_1, put_s, clr_0, clr_s, unl_i, unl_l, unl_r, unl_n, nth_0, nth_s, sf_0, sf_s, cnd_0, cnd_1, cnd_2, cnd_3, cnd_4, cnd_5, fit_0, fit_1, fit_2, en_0, en_i, en_l, en_r, kb_t, kb_f, kb_n, sw_0, sw_s, ↓reduceIte, Nat.reduceEqDiff, Nat.left_eq_add, Nat.add_eq_left, Nat.add_left_cancel_iff, Nat.reduceAdd, Int.reduceLT, Int.reduceLE, Int.reduceAdd, Int.reduceSub, Int.reduceNeg, Int.reduceMul, Int.reduceToNat, Int.reduceEq, reduceCtorEq, true_and, and_true, true_or, or_true, and_false, false_and, or_false, false_or, not_true_eq_false, not_false_eq_true, Nat.le_refl, and_self, Sum.inl.injEq, Sum.inr.injEq, Option.some.injEq, hS_2, k_isref, pd_0, pd_s, List.cons_append, List.nil_append, Option.toList_none, Option.toList_some, tX12_choice, rX12_choice, j1, e41, k32]
              exact bad (fun q => by rcases q with ⟨q, ⟨q2, q3⟩ | ⟨q2, q3⟩⟩
                                     · exact hc ⟨q, q2⟩
                                     · omega)
          · by_cases hc : rc2 < en ∧ f rc2 = 93
            · rw [if_pos hc.1]
              have e41 : (f rc2 = 93) = True := eq_true hc.2
              simp only [st_0, st_1, st_2, st_3, st_4, st_5, st_6, st_7, st_8, st_9, st_10, st_11, st_12, st_13, st_14, st_15, st_16, st_17, st_18, st_19, st_20, st_21, st_22, st_23, st_24, st_25, st_26, st_27, st_28, st_29, st_30, st_31, st_32, st_33, st_34, st_34a, st_35, st_36, st_37, st_38, st_39, st_42, st_44, st_45, st_47, st_40, st_41, st_46, st_48, st_49, st_43, go_0, go_s, cut_0, cut_s, get_0, get_s, put_0, put_1, put_s, clr_0, clr_s, unl_i, unl_l, unl_r, unl_n, nth_0, nth_s, sf_0, sf_s, cnd_0, cnd_1, cnd_2, cnd_3, cnd_4, cnd_5, fit_0, fit_1, fit_2, en_0, en_i, en_l, en_r, kb_t, kb_f, kb_n, sw_0, sw_s, ↓reduceIte, Nat.reduceEqDiff, Nat.left_eq_add, Nat.add_eq_left, Nat.add_left_cancel_iff, Nat.reduceAdd, Int.reduceLT, Int.reduceLE, Int.reduceAdd, Int.reduceSub, Int.reduceNeg, Int.reduceMul, Int.reduceToNat, Int.reduceEq, reduceCtorEq, true_and, and_true, true_or, or_true, and_false, false_and, or_false, false_or, not_true_eq_false, not_false_eq_true, Nat.le_refl, and_self, Sum.inl.injEq, Sum.inr.injEq, Option.some.injEq, hS_2, k_isref, pd_0, pd_s, List.cons_append, List.nil_append, Option.toList_none, Option.toList_some, tX12_choice, rX12_choice, j1, e41, e5]
              exact ⟨⟨by omega, by omega⟩, good hc.1 (Or.inr ⟨hc.2, rfl⟩)⟩
            · have e41 : ((if rc2 < en then f rc2 else 0) = 93) = False := eq_false (fun q => by
                by_cases c : rc2 < en
                · rw [if_pos c] at q; exact hc ⟨c, q⟩
                · rw [if_neg c] at q; omega)
              simp only [st_0, st_1, st_2, st_3, st_4, st_5, st_6, st_7, st_8, st_9, st_10, st_11, st_12, st_13, st_14, st_15, st_16, st_17, st_18, st_19, st_20, st_21, st_22, st_23, st_24, st_25, st_26, st_27, st_28, st_29, st_30, st_31, st_32, st_33, st_34, st_34a, st_35, st_36, st_37, st_38, st_39, st_42, st_44, st_45, st_47, st_40, st_41, st_46, st_48, st_49, st_43, go_0, go_s, cut_0, cut_s, get_0, get_s, put_0, put_1, put_s, clr_0, clr_s, unl_i, unl_l, unl_r, unl_n, nth_0, nth_s, sf_0, sf_s, cnd_0, cnd_1, cnd_2, cnd_3, cnd_4, cnd_5, fit_0, fit_1, fit_2, en_0, en_i, en_l, en_r, kb_t, kb_f, kb_n, sw_0, sw_s, ↓reduceIte, Nat.reduceEqDiff, Nat.left_eq_add, Nat.add_eq_left, Nat.add_left_cancel_iff, Nat.reduceAdd, Int.reduceLT, Int.reduceLE, Int.reduceAdd, Int.reduceSub, Int.reduceNeg, Int.reduceMul, Int.reduceToNat, Int.reduceEq, reduceCtorEq, true_and, and_true, true_or, or_true, and_false, false_and, or_false, false_or, not_true_eq_false, not_false_eq_true, Nat.le_refl, and_self, Sum.inl.injEq, Sum.inr.injEq, Option.some.injEq, hS_2, k_isref, pd_0, pd_s, List.cons_append, List.nil_append, Option.toList_none, Option.toList_some, tX12_choice, rX12_choice, j1, e41, k32]
              exact bad (fun q => by rcases q with ⟨q, ⟨q2, q3⟩ | ⟨q2, q3⟩⟩
                                     · omega
                                     · exact hc ⟨q, q2⟩)
        rw [← hS_id k1] at hlast
        simp only [st_0, st_1, st_2, st_3, st_4, st_5, st_6, st_7, st_8, st_9, st_10, st_11, st_12, st_13, st_14, st_15, st_16, st_17, st_18, st_19, st_20, st_21, st_22, st_23, st_24, st_25, st_26, st_27, st_28, st_29, st_30, st_31, st_32, st_33, st_34, st_34a, st_35, st_36, st_37, st_38, st_39, st_42, st_44, st_45, st_47, st_40, st_41, st_46, st_48, st_49, st_43, go_0, go_s, cut_0, cut_s, get_0, get_s, put_0, put_1, put_s, clr_0, clr_s, unl_i, unl_l, unl_r, unl_n, nth_0, nth_s, sf_0, sf_s, cnd_0, cnd_1, cnd_2, cnd_3, cnd_4, cnd_5, fit_0, fit_1, fit_2, en_0, en_i, en_l, en_r, kb_t, kb_f, kb_n, sw_0, sw_s, ↓reduceIte, Nat.reduceEqDiff, Nat.left_eq_add, Nat.add_eq_left, Nat.add_left_cancel_iff, Nat.reduceAdd, Int.reduceLT, Int.reduceLE, Int.reduceAdd, Int.reduceSub, Int.reduceNeg, Int.reduceMul, Int.reduceToNat, Int.reduceEq, reduceCtorEq, true_and, and_true, true_or, or_true, and_false, false_and, or_false, false_or, not_true_eq_false, not_false_eq_true, Nat.le_refl, and_self, Sum.inl.injEq, Sum.inr.injEq, Option.some.injEq, hS_2, k_isref, pd_0, pd_s, List.cons_append, List.nil_append, Option.toList_none, Option.toList_some, tX12_choice, rX12_choice, k1, c124, e0]
        exact ⟨⟨by omega, by omega⟩, hlast⟩
end Mchc79
